import java.lang.reflect.InvocationTargetException;
import java.lang.reflect.Method;
import java.lang.reflect.Modifier;
import java.util.ArrayList;
import java.util.Comparator;
import java.util.List;
import java.util.Map;
import java.util.Random;
import java.util.TreeMap;

/** Random runs of calls, each answer held against that of the Model; the numbers drawn are the same each time. */
public final class ModelTest {
    private static final int RUNS = 600;
    private static final int CALLS = 400;
    private static final List<Method> FACE = new ArrayList<>();
    private static final Map<String, int[]> SEEN = new TreeMap<>();
    private static int wrong = 0;

    private static final class Run {
        final Random random;
        final PencilUp x = new PencilUp();
        final Model model = new Model();
        final List<String> calls = new ArrayList<>();
        final List<String> told = new ArrayList<>();

        Run(long seed) {
            random = new Random(seed);
        }

        int below(int n) {
            return random.nextInt(n);
        }

        boolean oneIn(int n) {
            return random.nextInt(n) == 0;
        }

        String pick(String... all) {
            return all[below(all.length)];
        }

        // ---- texts ----

        String name(int most, int letters) {
            StringBuilder name = new StringBuilder();
            for (int k = 1 + below(most); k > 0; k--) {
                name.append((char) ('a' + below(letters)));
            }
            return name.toString();
        }

        String letterSet() {
            StringBuilder set = new StringBuilder();
            for (int k = 0; k < 8; k++) {
                if (oneIn(3)) {
                    set.insert(below(set.length() + 1), (char) ('a' + k));
                }
            }
            return set.length() == 0 ? "c" : set.toString();
        }

        String eveningLine(int words) {
            switch (below(10)) {
                case 0: case 1: case 2: case 3:
                    return "word " + (oneIn(8) ? "abc" : name(oneIn(3) ? 6 : 3, oneIn(3) ? 8 : 3)) + " often " + (1 + below(oneIn(2) ? 99 : 4));
                case 4: case 5:
                    return "writer speed " + (1 + below(9)) + (oneIn(2) ? " skill " + below(10) : "")
                        + (oneIn(2) ? " tired " + below(100) : "") + (oneIn(2) ? " leaves " + letterSet() : "");
                case 6: case 7: {
                    StringBuilder line = new StringBuilder("speech");
                    for (int k = 1 + below(6); k > 0; k--) {
                        line.append(' ').append(below(Math.max(1, words)));
                    }
                    return line.toString();
                }
                case 8: return oneIn(2) ? "tempo " + (1 + below(9)) : "slip " + below(101);
                default: return oneIn(2) ? "slip " + below(60) : "minute " + below(1000);
            }
        }

        String eveningText() {
            StringBuilder text = new StringBuilder();
            int words = model.count(0);
            for (int k = below(oneIn(4) ? 16 : 7); k > 0; k--) {
                String line = eveningLine(words);
                words += line.startsWith("word") ? 1 : 0;
                text.append(text.length() == 0 ? "" : pick(";", "; ", " ;")).append(line);
            }
            return text.toString();
        }

        String sum() {
            StringBuilder sum = new StringBuilder();
            do {
                sum.append(sum.length() == 0 ? "" : pick("+", " + "));
                sum.append(pick("writer", "word", "strokes", "letters", "speed", "skill", "tired", "" + below(8), "" + below(120), "007"));
            } while (oneIn(3));
            return sum.toString();
        }

        String condition(int depth) {
            if (depth > 0 && !oneIn(3)) {
                switch (below(4)) {
                    case 0: return "not " + condition(depth - 1);
                    case 1: return "(" + condition(depth - 1) + ")";
                    case 2: return condition(depth - 1) + " and " + condition(depth - 1);
                    default: return condition(depth - 1) + " or " + condition(depth - 1);
                }
            }
            return oneIn(3) ? pick("kept", "sure") : sum() + pick("<", ">", " < ") + sum();
        }

        String lawText() {
            StringBuilder text = new StringBuilder();
            for (int k = below(oneIn(6) ? 14 : 6); k > 0; k--) {
                text.append(text.length() == 0 ? "" : pick(";", " ; "));
                text.append(pick("tire ", "rest ", "slip ", "slip ")).append(below(oneIn(3) ? 100 : 25));
                text.append(oneIn(3) ? "" : " if " + condition(oneIn(8) ? 8 : 3));
            }
            return text.toString();
        }

        /** Texts go wrong by a byte, a cut or a thing put in. */
        String spoiled(String text) {
            StringBuilder bytes = new StringBuilder(text);
            int at = below(bytes.length() + 1);
            switch (below(6)) {
                case 0: bytes.setLength(at); break;
                case 1: bytes.insert(at, pick(" ", "  ", ";", "+", "(", ")", "<", "7", "a", "z", " not ", " if ", " 100 ", " 1000", "A", "\t", "\u0000", "\u00ff", "-")); break;
                case 2: if (at < bytes.length()) bytes.deleteCharAt(at); break;
                case 3: if (at < bytes.length()) bytes.setCharAt(at, (char) below(256)); break;
                case 4: bytes.append(pick(";", " ;  ", " x", ")")); break;
                default: bytes.insert(0, pick(" ", ";", "  ", "9")); break;
            }
            return bytes.toString();
        }

        void tellBytes(String bytes) {
            told.add(bytes);
            for (int at = 0; at < bytes.length(); at += 20) {
                int[] n = new int[5];
                for (int k = 0; k < 20; k++) {
                    n[k / 4] = n[k / 4] << 8 | (at + k < bytes.length() ? bytes.charAt(at + k) : 0);
                }
                both("feed", n[0], n[1], n[2], n[3], n[4]);
            }
            both("end", bytes.length());
        }

        void tellRows(int firsts, int seconds) {
            StringBuilder bytes = new StringBuilder();
            int rows = oneIn(5) ? below(23) : below(4);
            for (int k = 0; k < rows; k++) {
                bytes.append((char) below(oneIn(60) ? 256 : Math.max(1, firsts)));
                bytes.append((char) below(oneIn(60) ? 256 : seconds));
            }
            if (oneIn(25)) {
                bytes.append((char) 0);
            }
            tellBytes(bytes.toString());
        }

        /** Rows that are true of some word or some set, so that something fits. */
        void tellTrueRows(boolean heard) {
            int words = model.count(0);
            StringBuilder bytes = new StringBuilder();
            int word = words == 0 ? 0 : below(words);
            int writer = model.count(1) == 0 ? 0 : below(model.count(1));
            for (int k = below(5); k > 0 && words > 0; k--) {
                int other = below(words);
                if (heard) {
                    int place = below(model.word(word, 0));
                    bytes.append((char) place).append((char) (oneIn(5) ? below(8) : model.letter(word, place)));
                } else if (model.count(1) > 0) {
                    bytes.append((char) other).append((char) model.strokes(writer, other));
                }
            }
            tellBytes(bytes.toString());
        }

        // ---- calls ----

        Object answer(Object of, String name, Object... args) {
            for (Method method : of.getClass().getMethods()) {
                if (method.getName().equals(name) && method.getDeclaringClass() == of.getClass()) {
                    try {
                        return String.valueOf(method.invoke(of, args));
                    } catch (InvocationTargetException thrown) {
                        return thrown.getCause().getClass().getSimpleName();
                    } catch (IllegalAccessException hidden) {
                        throw new IllegalStateException(hidden);
                    }
                }
            }
            throw new IllegalStateException(name);
        }

        void both(String name, Object... args) {
            Object want = answer(model, name, args);
            Object got = answer(x, name, args);
            String call = name + List.of(args);
            calls.add(call + " -> " + want);
            int[] seen = SEEN.computeIfAbsent(name, key -> new int[2]);
            seen[want.toString().contains("Exception") ? 1 : 0]++;
            if (!want.equals(got)) {
                wrong++;
                System.out.println(call + " answered " + got + ", the model " + want + "; told " + told);
                System.out.println("  behind " + calls.subList(Math.max(0, calls.size() - 12), calls.size()));
            }
        }

        Object argument(String method, int k, Class<?> type) {
            if (type == boolean.class) {
                return oneIn(2);
            }
            if (oneIn(40)) {
                return oneIn(2) ? random.nextInt() : below(2) == 0 ? Integer.MIN_VALUE : Integer.MAX_VALUE;
            }
            switch (method + k) {
                case "writer1": return below(16) - 1;
                case "word1": return below(6) - 1;
                case "minutes0": return below(oneIn(3) ? 62 : 5);
                case "ahead1": case "trial0": case "span0": return below(oneIn(2) ? 63 : 8) - 1;
                case "leaves0": return below(oneIn(2) ? 1002 : 40) - 1;
                case "often1": return below(102) - 1;
                case "tempo0": case "speed1": return below(12) - 1;
                case "pages1": return below(oneIn(2) ? 102 : 12) - 1;
                case "odds2": return below(7) - 1;
                case "leave1": case "uses0": return below(10) - 1;
                case "log0": return below(oneIn(2) ? 64 : 6) - 1;
                case "log1": return below(6) - 1;
                case "page1": case "speech0": return below(23) - 1;
                case "mark2": case "letter1": return below(8) - 1;
                case "count0": return below(14) - 1;
                case "seed0": return random.nextInt();
                case "pairs0": return below(7) - 1;
                default: {
                    boolean writer = k == 0 && !List.of("word", "letter", "speak", "often", "change", "chain").contains(method)
                        || method.equals("better");
                    int many = model.count(writer ? 1 : 0);
                    return oneIn(12) ? below(11) - 1 : many == 0 ? 0 : below(many);
                }
            }
        }

        void anyCall() {
            Method method = FACE.get(below(FACE.size()));
            String name = method.getName();
            switch (name) {
                case "feed": case "end":
                    // Raw bytes are told seldom, so that most texts are not spoiled by what stood ahead.
                    if (oneIn(4)) {
                        both("feed", random.nextInt(), 0, 1, -1, random.nextInt());
                        both("end", below(24) - 1);
                    }
                    return;
                case "evening": {
                    both("end", 0);
                    String text = eveningText();
                    tellBytes(oneIn(3) ? spoiled(text) : text);
                    break;
                }
                case "law": {
                    both("end", 0);
                    String text = lawText();
                    tellBytes(oneIn(3) ? spoiled(text) : text);
                    break;
                }
                case "heard": case "likely": case "look": {
                    both("end", 0);
                    if (oneIn(2)) tellRows(6, 8); else tellTrueRows(true);
                    break;
                }
                case "hand": case "ask": case "whose": {
                    both("end", 0);
                    if (oneIn(3)) tellRows(model.count(0), 7); else tellTrueRows(false);
                    break;
                }
                default:
            }
            Class<?>[] types = method.getParameterTypes();
            Object[] args = new Object[types.length];
            for (int k = 0; k < args.length; k++) {
                args[k] = argument(name, k, types[k]);
            }
            both(name, args);
            if (oneIn(3) || name.equals("evening") || name.equals("law")) {
                both("fault");
                both("count", 11);
            }
        }

        /** Two texts of many words, writers and a long speech, as room for them is scarce in one. */
        void tellMuch() {
            StringBuilder words = new StringBuilder("slip 20");
            for (int k = 3 + below(6); k > 0; k--) {
                words.append(";word ").append(name(oneIn(3) ? 6 : 3, 2 + below(7))).append(" often ").append(1 + below(oneIn(2) ? 99 : 4));
            }
            tellBytes(words.toString());
            both("evening");
            StringBuilder writers = new StringBuilder("tempo " + (1 + below(9)));
            for (int k = 2 + below(4); k > 0; k--) {
                writers.append(";writer speed ").append(1 + below(9)).append(" leaves ").append(letterSet());
            }
            for (int k = below(4); k > 0; k--) {
                writers.append(";speech");
                for (int j = 0; j < 6; j++) {
                    writers.append(' ').append(below(model.count(0)));
                }
            }
            tellBytes(writers.toString());
            both("evening");
        }

        void go(int most) {
            both("end", 0);
            if (!oneIn(4)) {
                tellMuch();
            }
            while (calls.size() < most) {
                anyCall();
            }
        }
    }

    public static void main(String[] args) {
        for (Method method : PencilUp.class.getMethods()) {
            if (method.getDeclaringClass() == PencilUp.class && !Modifier.isStatic(method.getModifiers())) {
                FACE.add(method);
            }
        }
        FACE.sort(Comparator.comparing(Method::getName));
        int runs = args.length > 1 ? Integer.parseInt(args[1]) : RUNS;
        for (int k = 0; k < runs && wrong < 5; k++) {
            new Run(k).go(CALLS);
        }
        int all = 0;
        for (Map.Entry<String, int[]> seen : SEEN.entrySet()) {
            all += seen.getValue()[0] + seen.getValue()[1];
            if (args.length > 2) {
                System.out.println(seen.getKey() + " " + seen.getValue()[0] + " answers, " + seen.getValue()[1] + " exceptions");
            }
        }
        for (Method method : FACE) {
            if (!SEEN.containsKey(method.getName())) {
                wrong++;
                System.out.println(method.getName() + " was never called");
            }
        }
        System.out.println("ModelTest: " + all + " answers, " + wrong + " not as the model's");
        if (wrong > 0) {
            System.exit(1);
        }
    }
}
