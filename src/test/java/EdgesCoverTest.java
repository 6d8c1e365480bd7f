import java.lang.reflect.Method;
import java.util.List;

/** Each promise of the document has boundary cases of its own. */
public final class EdgesCoverTest {
    private static final Check CHECK = new Check("EdgesCoverTest");
    private static final int PROMISES = 58;

    public static void main(String[] args) {
        List<Class<?>> tests = List.of(EdgesTextsTest.class, EdgesThingsTest.class, EdgesActsTest.class, EdgesQuestionsTest.class);
        int[] many = new int[PROMISES + 1];
        for (Class<?> test : tests) {
            for (Method method : Edges.testsOf(test)) {
                int promise = Integer.parseInt(method.getName().substring(1, 3));
                CHECK.is(method.getName() + " is of a promise", true, promise >= 1 && promise <= PROMISES);
                many[promise]++;
            }
        }
        for (int promise = 1; promise <= PROMISES; promise++) {
            CHECK.is("promise " + promise + " has boundary cases", true, many[promise] > 0);
        }
        CHECK.finish();
    }
}
