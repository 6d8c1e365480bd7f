import java.lang.reflect.InvocationTargetException;
import java.lang.reflect.Method;
import java.util.ArrayList;
import java.util.Arrays;
import java.util.Comparator;
import java.util.List;
import java.util.NoSuchElementException;

/**
 * Runs boundary cases, each in a method of its own that bears its promise's number and what the document says there
 * (p04_aNinthWordIsWrong), and sees whether a call left an object as it was.
 */
final class Edges {
    interface On {
        long answer(PencilUp x);
    }

    interface Made {
        PencilUp make();
    }

    static final Class<IndexOutOfBoundsException> NO_SUCH = IndexOutOfBoundsException.class;
    static final Class<IllegalArgumentException> NONE_SUCH = IllegalArgumentException.class;
    static final Class<NoSuchElementException> NO_WHAT = NoSuchElementException.class;
    static final Class<IllegalStateException> CANNOT_BE = IllegalStateException.class;
    static final Class<UnsupportedOperationException> NO_MORE = UnsupportedOperationException.class;

    /** Numbers that stand for no WORD, WRITER or LETTER wherever they are told. */
    static final int[] NOWHERE = {-1, 8, 9, -2, Integer.MAX_VALUE, Integer.MIN_VALUE};

    /** The acts of a rich object that can be undone. */
    static final int RICH_ACTS = 5;

    private static Check check = new Check("Edges");
    private static String name = "";

    private Edges() {
    }

    static void runAll(Class<?> tests) {
        check = new Check(tests.getSimpleName());
        for (Method test : testsOf(tests)) {
            name = test.getName();
            try {
                test.setAccessible(true);
                test.invoke(null);
            } catch (InvocationTargetException | IllegalAccessException thrown) {
                check.is(name + " ended by " + thrown.getCause(), 0, 1);
            }
        }
        check.finish();
    }

    static List<Method> testsOf(Class<?> tests) {
        List<Method> found = new ArrayList<>();
        for (Method method : tests.getDeclaredMethods()) {
            if (method.getName().matches("p\\d\\d_\\w+")) {
                found.add(method);
            }
        }
        found.sort(Comparator.comparing(Method::getName));
        return found;
    }

    static void is(long want, long got) {
        check.is(name, want, got);
    }

    static void is(boolean want, boolean got) {
        check.is(name, want, got);
    }

    static void is(String what, long want, long got) {
        check.is(name + ", " + what, want, got);
    }

    static void is(String what, boolean want, boolean got) {
        check.is(name + ", " + what, want, got);
    }

    static void fails(Class<? extends RuntimeException> want, Check.Call call) {
        check.fails(name, want, call);
    }

    // ---- texts, in which ^ stands ahead of the first wrong byte ----

    static void wrongEvening(PencilUp x, String marked) {
        wrongText(x, marked, PencilUp::evening);
    }

    static void wrongEvening(String marked) {
        wrongEvening(new PencilUp(), marked);
    }

    static void wrongLaw(String marked) {
        wrongText(new PencilUp(), marked, PencilUp::law);
    }

    private static void wrongText(PencilUp x, String marked, On read) {
        int at = marked.indexOf('^');
        Check.tell(x, marked.substring(0, at) + marked.substring(at + 1));
        check.fails(name + ", " + marked, NONE_SUCH, () -> read.answer(x));
        check.is(name + ", fault of " + marked, at, x.fault());
        check.is(name + ", the tape behind " + marked, 20, x.feed(0, 0, 0, 0, 0));
        x.end(0);
    }

    /** Reads a right text of the evening behind all that the object has. */
    static void more(PencilUp x, String text) {
        Check.tell(x, text);
        x.evening();
    }

    static int readLaw(PencilUp x, String text) {
        Check.tell(x, text);
        return x.law();
    }

    // ---- calls that change nothing ----

    /** An object that has something of everything: words, writers, a law, a log, acts, an image, a fault, a tape. */
    static PencilUp rich() {
        PencilUp x = Check.evening("word abc often 10;word ab often 5;word cab often 3;word b often 1;"
            + "writer speed 2 leaves a;writer speed 1 skill 2 tired 20;writer speed 9 skill 8 tired 97;"
            + "speech 0 1 2 0 1 3;tempo 2;slip 40;minute 7",
            "tire 1 if kept;rest 3 if word>7;slip 20 if not sure;slip 5 if writer>0 and strokes+1>letters");
        x.minutes(2);
        x.image();
        x.seed(77);
        x.speak(3);
        x.minutes(1);
        x.leave(0, 7, true);
        x.learn(1);
        Check.tell(x, "tempo 0");
        try {
            x.evening();
        } catch (IllegalArgumentException due) {
            Check.tell(x, "slip 7;");
        }
        return x;
    }

    /** The call throws just this, and leaves all of a rich object as it was. */
    static void refused(Class<? extends RuntimeException> want, On call) {
        refused(want, Edges::rich, call);
    }

    static void refused(Class<? extends RuntimeException> want, Made made, On call) {
        PencilUp x = made.make();
        fails(want, () -> call.answer(x));
        same(made.make(), x, true);
    }

    /** The call throws just this, uses the tape up, and leaves all else of a rich object as it was. */
    static void refusedTape(Class<? extends RuntimeException> want, On call) {
        PencilUp x = rich();
        fails(want, () -> call.answer(x));
        PencilUp other = rich();
        other.end(0);
        same(other, x, true);
    }

    /** Whatever the call answers, a rich object is as it was behind it. */
    static void changesNothing(On call) {
        changesNothing(Edges::rich, call);
    }

    static void changesNothing(Made made, On call) {
        PencilUp x = made.make();
        call.answer(x);
        same(made.make(), x, true);
    }

    /** Sees that two objects are alike in all that can be asked; both are used up by it. */
    static void same(PencilUp want, PencilUp got, boolean alsoFault) {
        List<String> wants = allOf(want, alsoFault);
        List<String> gots = allOf(got, alsoFault);
        String differ = "";
        for (int k = 0; k < Math.max(wants.size(), gots.size()) && differ.isEmpty(); k++) {
            String one = k < wants.size() ? wants.get(k) : "nothing";
            String other = k < gots.size() ? gots.get(k) : "nothing";
            differ = one.equals(other) ? "" : ": " + other + " in place of " + one;
        }
        check.is(name + ", all is as it was" + differ, true, differ.isEmpty());
    }

    private static List<String> allOf(PencilUp x, boolean alsoFault) {
        List<String> all = new ArrayList<>();
        all.add("fault " + (alsoFault ? x.fault() : 0));
        all.add("tape " + x.feed(0, 0, 0, 0, 0));
        int seed = x.seed(0);
        x.seed(seed);
        all.add("seed " + seed);
        addPlain(all, x);
        addWritten(all, x);
        boolean undone = true;
        for (int acts = 0; acts <= 12 && undone; acts++) {
            undone = x.undo();
            all.add("undo " + undone + " " + x.seed(0) + shortly(x));
        }
        all.add("back " + x.back() + " " + x.seed(0) + counts(x) + people(x));
        return all;
    }

    /** Few calls, so that all that an object is asked stays within its 512. */
    private static String shortly(PencilUp x) {
        StringBuilder row = new StringBuilder();
        for (int what = 4; what <= 11; what++) {
            row.append(' ').append(x.count(what));
        }
        int writers = x.count(1);
        for (int writer = 0; writer < writers; writer++) {
            row.append(' ').append(x.writer(writer, 0)).append(',').append(x.writer(writer, 2));
        }
        return row.toString();
    }

    private static void addPlain(List<String> all, PencilUp x) {
        all.add("counts" + counts(x));
        int words = x.count(0);
        for (int word = 0; word < words; word++) {
            StringBuilder row = new StringBuilder("word " + word + ":");
            int letters = x.word(word, 0);
            for (int place = 0; place < letters; place++) {
                row.append(' ').append(x.letter(word, place));
            }
            all.add(row.append(" often ").append(x.word(word, 1)).toString());
        }
        all.add("writers" + people(x));
        StringBuilder speech = new StringBuilder("speech");
        int spoken = x.count(4);
        for (int k = 0; k < spoken; k++) {
            speech.append(' ').append(x.speech(k));
        }
        all.add(speech.toString());
    }

    private static void addWritten(List<String> all, PencilUp x) {
        int writers = x.count(1);
        int words = x.count(0);
        int said = x.count(5);
        for (int writer = 0; writer < writers; writer++) {
            StringBuilder page = new StringBuilder("page of " + writer + ":");
            for (int k = 0; k < said; k++) {
                page.append(' ').append(x.page(writer, k));
            }
            all.add(page.toString());
            // The law is seen by what slips, and by who is tired ahead.
            for (int word = 0; word < words; word++) {
                all.add("slips " + x.slips(writer, word));
            }
            all.add("ahead " + x.ahead(writer, 1) + " " + x.ahead(writer, 60));
        }
        int rows = Math.min(x.count(10), 12);
        for (int ago = 0; ago < rows; ago++) {
            all.add("log " + x.log(ago, 0) + " " + x.log(ago, 1) + " " + x.log(ago, 2) + " " + x.log(ago, 3));
        }
    }

    private static String counts(PencilUp x) {
        int[] counts = new int[12];
        for (int what = 0; what < counts.length; what++) {
            counts[what] = x.count(what);
        }
        return Arrays.toString(counts);
    }

    private static String people(PencilUp x) {
        StringBuilder rows = new StringBuilder();
        int writers = x.count(1);
        for (int writer = 0; writer < writers; writer++) {
            rows.append(' ');
            for (int what = 0; what < 4; what++) {
                rows.append(x.writer(writer, what)).append(',');
            }
        }
        return rows.toString();
    }
}
