import java.util.ArrayDeque;
import java.util.ArrayList;
import java.util.Arrays;
import java.util.Deque;
import java.util.HashMap;
import java.util.List;
import java.util.Map;
import java.util.NoSuchElementException;
import java.util.PriorityQueue;
import java.util.TreeSet;

/** The document once more, in the plainest way and without a thought for room or speed: what answers are held against. */
public final class Model {
    static final class Word implements Cloneable {
        String letters;
        int often;

        Word(String letters, int often) {
            this.letters = letters;
            this.often = often;
        }
    }

    static final class Writer {
        String leaves = "";
        int speed;
        int skill;
        int tired;
        List<Integer> page = new ArrayList<>();

        Writer copy() {
            Writer w = new Writer();
            w.leaves = leaves;
            w.speed = speed;
            w.skill = skill;
            w.tired = tired;
            w.page = new ArrayList<>(page);
            return w;
        }
    }

    interface Condition {
        boolean holds(Map<String, Integer> facts);
    }

    interface Sum {
        int of(Map<String, Integer> facts);
    }

    record Line(String kind, int amount, Condition condition) { }

    static final class World {
        List<Word> words = new ArrayList<>();
        List<Integer> speech = new ArrayList<>();
        int said;
        List<Writer> writers = new ArrayList<>();
        int tempo = 3;
        int slip;
        int minute;
        int seed = 1;
        int texts;
        List<Line> law;
        List<int[]> log = new ArrayList<>();

        World copy() {
            World w = new World();
            for (Word word : words) {
                w.words.add(new Word(word.letters, word.often));
            }
            w.speech.addAll(speech);
            w.said = said;
            for (Writer writer : writers) {
                w.writers.add(writer.copy());
            }
            w.tempo = tempo;
            w.slip = slip;
            w.minute = minute;
            w.seed = seed;
            w.texts = texts;
            w.law = law;
            w.log.addAll(log);
            return w;
        }
    }

    /** A text that is wrong at a byte. */
    static final class Wrong extends RuntimeException {
        private static final long serialVersionUID = 1;
        final int at;

        Wrong(int at) {
            this.at = at;
        }
    }

    private World now = new World();
    private final Deque<World> acts = new ArrayDeque<>();
    private World image;
    private int fault = -1;
    private String tape = "";

    // ---- reading ----

    private final class Reader {
        final List<String> things = new ArrayList<>();
        final List<Integer> begins = new ArrayList<>();
        int next;

        Reader(String text) {
            int at = 0;
            while (at < text.length()) {
                int from = at;
                char c = text.charAt(at);
                at++;
                if (c == ' ') {
                    continue;
                }
                while (at < text.length() && (small(c) && small(text.charAt(at)) || digit(c) && digit(text.charAt(at)))) {
                    at++;
                }
                things.add(text.substring(from, at));
                begins.add(from);
            }
            things.add("");
            begins.add(text.length());
        }

        boolean small(char c) {
            return 'a' <= c && c <= 'z';
        }

        boolean digit(char c) {
            return '0' <= c && c <= '9';
        }

        String here() {
            return things.get(next);
        }

        Wrong wrong() {
            return new Wrong(begins.get(next));
        }

        boolean maybe(String thing) {
            if (here().equals(thing)) {
                next++;
                return true;
            }
            return false;
        }

        void must(String thing) {
            if (!maybe(thing)) {
                throw wrong();
            }
        }

        int number(int least, int most) {
            if (!here().matches("[0-9]{1,3}")) {
                throw wrong();
            }
            int n = Integer.parseInt(here());
            if (n < least || n > most) {
                throw wrong();
            }
            next++;
            return n;
        }

        String letters(String pattern) {
            if (!here().matches(pattern)) {
                throw wrong();
            }
            String letters = here();
            next++;
            return letters;
        }

        void evening(World w) {
            if (here().isEmpty()) {
                return;
            }
            int lines = 0;
            do {
                if (lines == 14) {
                    throw wrong();
                }
                lines++;
                line(w);
            } while (maybe(";"));
            if (!here().isEmpty()) {
                throw wrong();
            }
        }

        void line(World w) {
            switch (here()) {
                case "word" -> {
                    if (w.words.size() == 8) {
                        throw wrong();
                    }
                    next++;
                    String letters = letters("[a-h]{1,6}");
                    must("often");
                    w.words.add(new Word(letters, number(1, 99)));
                }
                case "writer" -> {
                    if (w.writers.size() == 5) {
                        throw wrong();
                    }
                    next++;
                    Writer writer = new Writer();
                    must("speed");
                    writer.speed = number(1, 9);
                    writer.skill = maybe("skill") ? number(0, 9) : 0;
                    writer.tired = maybe("tired") ? number(0, 99) : 0;
                    writer.leaves = maybe("leaves") ? letters("(?:([a-h])(?!.*\\1))+") : "";
                    for (int k = 0; k < w.said; k++) {
                        writer.page.add(0);
                    }
                    w.writers.add(writer);
                }
                case "speech" -> {
                    next++;
                    int many = 0;
                    do {
                        if (many == 6 || w.speech.size() == 20) {
                            throw wrong();
                        }
                        w.speech.add(number(0, w.words.size() - 1));
                        many++;
                    } while (here().matches("[0-9]+"));
                }
                case "tempo" -> {
                    next++;
                    w.tempo = number(1, 9);
                }
                case "slip" -> {
                    next++;
                    w.slip = number(0, 100);
                }
                case "minute" -> {
                    next++;
                    w.minute = number(0, 999);
                }
                default -> throw wrong();
            }
        }

        List<Line> law() {
            List<Line> lines = new ArrayList<>();
            if (here().isEmpty()) {
                return lines;
            }
            do {
                String kind = here();
                if (lines.size() == 12 || !kind.matches("tire|rest|slip")) {
                    throw wrong();
                }
                next++;
                int amount = number(0, 99);
                lines.add(new Line(kind, amount, maybe("if") ? any(0) : f -> true));
            } while (maybe(";"));
            if (!here().isEmpty()) {
                throw wrong();
            }
            return lines;
        }

        Condition any(int depth) {
            Condition left = all(depth);
            while (maybe("or")) {
                Condition before = left;
                Condition more = all(depth);
                left = f -> before.holds(f) || more.holds(f);
            }
            return left;
        }

        Condition all(int depth) {
            Condition left = atom(depth);
            while (maybe("and")) {
                Condition before = left;
                Condition more = atom(depth);
                left = f -> before.holds(f) && more.holds(f);
            }
            return left;
        }

        Condition atom(int depth) {
            String thing = here();
            if (thing.equals("not") || thing.equals("(")) {
                if (depth == 6) {
                    throw wrong();
                }
                next++;
                if (thing.equals("not")) {
                    Condition inner = atom(depth + 1);
                    return f -> !inner.holds(f);
                }
                Condition inner = any(depth + 1);
                must(")");
                return inner;
            }
            if (thing.equals("kept") || thing.equals("sure")) {
                next++;
                return f -> f.get(thing) == 1;
            }
            Sum left = sum();
            boolean less = here().equals("<");
            if (!less && !here().equals(">")) {
                throw wrong();
            }
            next++;
            Sum right = sum();
            return f -> less ? left.of(f) < right.of(f) : left.of(f) > right.of(f);
        }

        Sum sum() {
            Sum left = part();
            while (maybe("+")) {
                Sum before = left;
                Sum more = part();
                left = f -> before.of(f) + more.of(f);
            }
            return left;
        }

        Sum part() {
            String thing = here();
            if (thing.matches("writer|word|strokes|letters|speed|skill|tired")) {
                next++;
                return f -> f.get(thing);
            }
            int n = number(0, 999);
            return f -> n;
        }
    }

    // ---- helpers ----

    private void needWord(int word) {
        if (word < 0 || word >= now.words.size()) {
            throw new IndexOutOfBoundsException();
        }
    }

    private void needWriter(int writer) {
        if (writer < 0 || writer >= now.writers.size()) {
            throw new IndexOutOfBoundsException();
        }
    }

    private void needNumber(int n, int least, int most) {
        if (n < least || n > most) {
            throw new IllegalArgumentException();
        }
    }

    private void act() {
        acts.addLast(now.copy());
        if (acts.size() > 12) {
            acts.removeFirst();
        }
    }

    private static String marked(World w, int word, String leaves) {
        StringBuilder mark = new StringBuilder();
        for (char c : w.words.get(word).letters.toCharArray()) {
            if (leaves.indexOf(c) < 0) {
                mark.append(c);
            }
        }
        return mark.toString();
    }

    private static int alikes(World w, int word, String leaves) {
        int bits = 0;
        for (int k = 0; k < w.words.size(); k++) {
            if (marked(w, k, leaves).equals(marked(w, word, leaves))) {
                bits += 1 << k;
            }
        }
        return bits;
    }

    private static int readAs(World w, int word, String leaves) {
        int most = 0;
        int best = -1;
        for (int k = w.words.size() - 1; k >= 0; k--) {
            if ((alikes(w, word, leaves) & 1 << k) != 0 && w.words.get(k).often >= most) {
                most = w.words.get(k).often;
                best = k;
            }
        }
        return best;
    }

    private static String lettersOf(int bits) {
        StringBuilder letters = new StringBuilder();
        for (int k = 0; k < 8; k++) {
            if ((bits & 1 << k) != 0) {
                letters.append((char) ('a' + k));
            }
        }
        return letters.toString();
    }

    private static int bitsOf(String letters) {
        int bits = 0;
        for (char c : letters.toCharArray()) {
            bits |= 1 << c - 'a';
        }
        return bits;
    }

    private static int lost(World w, String leaves) {
        int sum = 0;
        for (int k = 0; k < w.words.size(); k++) {
            sum += readAs(w, k, leaves) == k ? 0 : w.words.get(k).often;
        }
        return sum;
    }

    private static int saves(World w, String leaves) {
        int sum = 0;
        for (int k = 0; k < w.words.size(); k++) {
            Word word = w.words.get(k);
            sum += (word.letters.length() - marked(w, k, leaves).length()) * word.often;
        }
        return sum;
    }

    private static Map<String, Integer> facts(World w, int writer, int word) {
        Writer one = w.writers.get(writer);
        Map<String, Integer> facts = new HashMap<>();
        facts.put("writer", writer);
        facts.put("word", word);
        facts.put("speed", one.speed);
        facts.put("skill", one.skill);
        facts.put("tired", one.tired);
        int strokes = word == 8 ? 0 : marked(w, word, one.leaves).length();
        int letters = word == 8 ? 0 : w.words.get(word).letters.length();
        facts.put("strokes", strokes);
        facts.put("letters", letters);
        facts.put("kept", word != 8 && strokes == letters ? 1 : 0);
        facts.put("sure", word != 8 && alikes(w, word, one.leaves) == 1 << word ? 1 : 0);
        return facts;
    }

    private static int lawful(World w, String kind, int writer, int word) {
        int sum = 0;
        if (w.law != null) {
            for (Line line : w.law) {
                if (line.kind().equals(kind) && line.condition().holds(facts(w, writer, word))) {
                    sum += line.amount();
                }
            }
        }
        return sum;
    }

    private static int slipsOf(World w, int writer, int word) {
        int slips = w.slip + lawful(w, "slip", writer, word) - 5 * w.writers.get(writer).skill;
        return slips < 0 ? 0 : slips > 100 ? 100 : slips;
    }

    private static boolean keeping(World w, int writer, int word) {
        Writer one = w.writers.get(writer);
        return marked(w, word, one.leaves).length() <= one.speed * w.tempo - one.tired / 10;
    }

    private static boolean minute(World w, boolean draws) {
        boolean speaking = w.said < w.speech.size();
        int word = speaking ? w.speech.get(w.said) : 8;
        for (int k = 0; k < w.writers.size(); k++) {
            Writer one = w.writers.get(k);
            if (speaking && keeping(w, k, word)) {
                int slips = slipsOf(w, k, word);
                int outcome = 1;
                if (draws) {
                    w.seed = (int) (1103515245L * w.seed + 12345L);
                    if ((w.seed & 0x7fffffff) / 65536 % 100 < slips) {
                        outcome = 2;
                    }
                }
                one.tired = Math.min(99, one.tired + marked(w, word, one.leaves).length() + lawful(w, "tire", k, word));
                note(w, k, word, outcome);
            } else {
                one.tired = Math.max(0, one.tired - 2 - lawful(w, "rest", k, word));
                if (speaking) {
                    note(w, k, word, 0);
                }
            }
        }
        if (speaking) {
            w.said++;
        }
        if (w.minute < 9999) {
            w.minute++;
        }
        return speaking;
    }

    private static void note(World w, int writer, int word, int outcome) {
        w.writers.get(writer).page.add(outcome);
        w.log.add(0, new int[] {w.minute, writer, word, outcome});
        if (w.log.size() > 60) {
            w.log.remove(60);
        }
    }

    private int[][] takeRows(int firsts, int seconds) {
        String bytes = tape;
        tape = "";
        if (bytes.length() > 40 || bytes.length() % 2 == 1) {
            throw new IllegalArgumentException();
        }
        int[][] rows = new int[bytes.length() / 2][];
        for (int k = 0; k < rows.length; k++) {
            rows[k] = new int[] {bytes.charAt(2 * k), bytes.charAt(2 * k + 1)};
            if (rows[k][0] >= firsts || rows[k][1] >= seconds) {
                throw new IllegalArgumentException();
            }
        }
        return rows;
    }

    private int wrongRows(int[][] rows, int word) {
        String letters = now.words.get(word).letters;
        int wrong = 0;
        for (int[] row : rows) {
            if (row[0] >= letters.length() || letters.charAt(row[0]) != 'a' + row[1]) {
                wrong++;
            }
        }
        return wrong;
    }

    private boolean fits(int[][] rows, String leaves) {
        return Arrays.stream(rows).allMatch(row -> marked(now, row[0], leaves).length() == row[1]);
    }

    private int tally(int outcome, World w) {
        int many = 0;
        for (Writer one : w.writers) {
            for (int got : one.page) {
                many += got == outcome ? 1 : 0;
            }
        }
        return many;
    }

    private int[] times(int writer, int tempo) {
        Writer one = now.writers.get(writer);
        int done = 0;
        int lag = 0;
        for (int k = 0; k < now.speech.size(); k++) {
            int said = k * tempo;
            int begin = Math.max(said, done);
            lag = Math.max(lag, begin - said);
            int strokes = marked(now, now.speech.get(k), one.leaves).length();
            int takes = strokes / one.speed + (strokes % one.speed > 0 ? 1 : 0);
            done = begin + takes;
        }
        return new int[] {done, lag};
    }

    private int trueOnes(int writer) {
        Writer one = now.writers.get(writer);
        int many = 0;
        for (int k = 0; k < now.said; k++) {
            int word = now.speech.get(k);
            if (one.page.get(k) == 1 && readAs(now, word, one.leaves) == word) {
                many++;
            }
        }
        return many;
    }

    private static int distance(String a, String b) {
        if (a.isEmpty() || b.isEmpty()) {
            return a.length() + b.length();
        }
        int same = a.charAt(0) == b.charAt(0) ? 0 : 1;
        int best = same + distance(a.substring(1), b.substring(1));
        if (same == 1) {
            best = Math.min(best, 1 + distance(a.substring(1), b));
            best = Math.min(best, 1 + distance(a, b.substring(1)));
        }
        return best;
    }

    private int huffman() {
        PriorityQueue<Integer> heap = new PriorityQueue<>();
        for (Word word : now.words) {
            heap.add(word.often);
        }
        int cost = 0;
        while (heap.size() > 1) {
            int both = heap.poll() + heap.poll();
            cost += both;
            heap.add(both);
        }
        return cost;
    }

    /** The first lengths, in their order, that cost just so much and are those of rows of which none begins another. */
    private boolean findLengths(int[] lengths, int k, double room, int cost) {
        if (k == lengths.length) {
            return cost == 0;
        }
        int rest = 0;
        for (int j = k; j < lengths.length; j++) {
            rest += now.words.get(j).often;
        }
        if (rest > cost) {
            return false;
        }
        double part = 1;
        for (int length = 1; length < 9; length++) {
            part /= 2;
            lengths[k] = length;
            if (part <= room && findLengths(lengths, k + 1, room - part, cost - length * now.words.get(k).often)) {
                return true;
            }
        }
        return false;
    }

    private void allPairs(int[] with, int k, List<int[]> ways) {
        int many = now.writers.size();
        if (k == many) {
            ways.add(with.clone());
            return;
        }
        if (with[k] != -2) {
            allPairs(with, k + 1, ways);
            return;
        }
        with[k] = -1;
        allPairs(with, k + 1, ways);
        for (int other = k + 1; other < many; other++) {
            if (with[other] == -2) {
                with[k] = other;
                with[other] = k;
                allPairs(with, k + 1, ways);
                with[other] = -2;
            }
        }
        with[k] = -2;
    }

    private int worth(int[] with) {
        int sum = 0;
        for (int k = 0; k < with.length; k++) {
            if (with[k] > k) {
                int one = bitsOf(now.writers.get(k).leaves);
                int other = bitsOf(now.writers.get(with[k]).leaves);
                sum += Integer.bitCount(one ^ other);
            }
        }
        return sum;
    }

    // ---- the face ----

    public int feed(int a, int b, int c, int d, int e) {
        if (tape.length() > 380) {
            return -1;
        }
        StringBuilder bytes = new StringBuilder(tape);
        for (int n : new int[] {a, b, c, d, e}) {
            for (int k = 3; k >= 0; k--) {
                bytes.append((char) (n >> 8 * k & 255));
            }
        }
        tape = bytes.toString();
        return tape.length();
    }

    public boolean end(int n) {
        if (n < 0 || n > tape.length()) {
            return false;
        }
        tape = tape.substring(0, n);
        return true;
    }

    public int evening() {
        String text = tape;
        tape = "";
        World draft = now.copy();
        fault = -1;
        try {
            new Reader(text).evening(draft);
        } catch (Wrong wrong) {
            fault = wrong.at;
            throw new IllegalArgumentException();
        }
        if (now.texts == 12) {
            throw new UnsupportedOperationException();
        }
        now = draft;
        now.texts++;
        acts.clear();
        return now.texts;
    }

    public int law() {
        String text = tape;
        tape = "";
        fault = -1;
        try {
            now.law = new Reader(text).law();
        } catch (Wrong wrong) {
            fault = wrong.at;
            throw new IllegalArgumentException();
        }
        acts.clear();
        return now.law.size();
    }

    public int fault() {
        return fault;
    }

    public int word(int word, int what) {
        needWord(word);
        switch (what) {
            case 0: return now.words.get(word).letters.length();
            case 1: return now.words.get(word).often;
            case 2: {
                if (now.words.size() == 1) {
                    return 0;
                }
                int[] lengths = new int[now.words.size()];
                findLengths(lengths, 0, 1, huffman());
                return lengths[word];
            }
            case 3: {
                int best = -1;
                for (int k = 0; k < now.words.size(); k++) {
                    if (k != word && (best == -1 || change(word, k) < change(word, best))) {
                        best = k;
                    }
                }
                return best;
            }
            default: throw new NoSuchElementException();
        }
    }

    public int letter(int word, int place) {
        needWord(word);
        String letters = now.words.get(word).letters;
        return place < 0 || place >= letters.length() ? -1 : letters.charAt(place) - 'a';
    }

    public int writer(int writer, int what) {
        needWriter(writer);
        Writer one = now.writers.get(writer);
        switch (what) {
            case 0: return bitsOf(one.leaves);
            case 1: return one.speed;
            case 2: return one.skill;
            case 3: return one.tired;
            case 4: {
                int bits = 0;
                for (int k = 0; k < now.words.size(); k++) {
                    bits |= marked(now, k, one.leaves).isEmpty() ? 1 << k : 0;
                }
                return bits;
            }
            case 5: return lost(now, one.leaves);
            case 6: return saves(now, one.leaves);
            case 7: return times(writer, now.tempo)[0];
            case 8: return times(writer, now.tempo)[1];
            case 9: {
                for (int tempo = 1; tempo < 10; tempo++) {
                    if (times(writer, tempo)[1] == 0) {
                        return tempo;
                    }
                }
                return -1;
            }
            case 10: {
                StringBuilder page = new StringBuilder();
                one.page.forEach(page::append);
                int longest = 0;
                for (String run : page.toString().split("[02]")) {
                    longest = Math.max(longest, run.length());
                }
                return longest;
            }
            case 11: return (int) one.page.stream().filter(got -> got != 1).count();
            case 12: return trueOnes(writer);
            case 13: {
                int all = tally(1, now);
                return all == 0 ? 0 : (int) (100 * one.page.stream().filter(got -> got == 1).count() / all);
            }
            default: throw new NoSuchElementException();
        }
    }

    public int speech(int k) {
        return k < 0 || k >= now.speech.size() ? -1 : now.speech.get(k);
    }

    public int page(int writer, int k) {
        needWriter(writer);
        return k < 0 || k >= now.said ? -1 : now.writers.get(writer).page.get(k);
    }

    public int strokes(int writer, int word) {
        needWriter(writer);
        needWord(word);
        return marked(now, word, now.writers.get(writer).leaves).length();
    }

    public int mark(int writer, int word, int k) {
        needWriter(writer);
        needWord(word);
        String mark = marked(now, word, now.writers.get(writer).leaves);
        return k < 0 || k >= mark.length() ? -1 : mark.charAt(k) - 'a';
    }

    public int alike(int writer, int word) {
        needWriter(writer);
        needWord(word);
        return alikes(now, word, now.writers.get(writer).leaves);
    }

    public int reads(int writer, int word) {
        needWriter(writer);
        needWord(word);
        return readAs(now, word, now.writers.get(writer).leaves);
    }

    public boolean keepsUp(int writer, int word) {
        needWriter(writer);
        needWord(word);
        return keeping(now, writer, word);
    }

    public int slips(int writer, int word) {
        needWriter(writer);
        needWord(word);
        return slipsOf(now, writer, word);
    }

    public int minutes(int n) {
        needNumber(n, 1, 60);
        act();
        int said = 0;
        for (int k = 0; k < n; k++) {
            said += minute(now, true) ? 1 : 0;
        }
        return said;
    }

    public int speak(int word) {
        needWord(word);
        if (now.speech.size() == 20) {
            throw new IllegalStateException();
        }
        act();
        now.speech.add(word);
        return now.speech.size();
    }

    public boolean leave(int writer, int letter, boolean is) {
        needWriter(writer);
        if (letter < 0 || letter > 7) {
            throw new IndexOutOfBoundsException();
        }
        act();
        Writer one = now.writers.get(writer);
        String sign = lettersOf(1 << letter);
        boolean was = one.leaves.contains(sign);
        one.leaves = one.leaves.replace(sign, "") + (is ? sign : "");
        return was != is;
    }

    public int learn(int writer) {
        needWriter(writer);
        act();
        Writer one = now.writers.get(writer);
        one.skill += one.skill < 9 ? 1 : 0;
        return one.skill;
    }

    public int rest(int writer) {
        needWriter(writer);
        act();
        int was = now.writers.get(writer).tired;
        now.writers.get(writer).tired = 0;
        return was;
    }

    public int often(int word, int n) {
        needWord(word);
        needNumber(n, 1, 99);
        act();
        int was = now.words.get(word).often;
        now.words.get(word).often = n;
        return was;
    }

    public int tempo(int n) {
        needNumber(n, 1, 9);
        act();
        int was = now.tempo;
        now.tempo = n;
        return was;
    }

    public int speed(int writer, int n) {
        needWriter(writer);
        needNumber(n, 1, 9);
        act();
        int was = now.writers.get(writer).speed;
        now.writers.get(writer).speed = n;
        return was;
    }

    public int keep() {
        for (int many = 0; many <= 8; many++) {
            for (int set = 0; set < 256; set++) {
                TreeSet<String> marks = new TreeSet<>();
                for (int k = 0; k < now.words.size(); k++) {
                    marks.add(marked(now, k, lettersOf(255 - set)));
                }
                if (Integer.bitCount(set) == many && marks.size() == now.words.size()) {
                    return set;
                }
            }
        }
        return -1;
    }

    public int leaves(int p, boolean saved) {
        needNumber(p, 0, 999);
        int best = -1;
        int most = -1;
        for (int set = 255; set >= 0; set--) {
            String leaves = lettersOf(set);
            if (lost(now, leaves) <= p && saves(now, leaves) >= most) {
                best = set;
                most = saves(now, leaves);
            }
        }
        return saved ? most : best;
    }

    public int codes() {
        return huffman();
    }

    public int heard() {
        int[][] rows = takeRows(6, 8);
        int bits = 0;
        for (int k = 0; k < now.words.size(); k++) {
            bits |= wrongRows(rows, k) < 2 ? 1 << k : 0;
        }
        return bits;
    }

    public int likely() {
        int[][] rows = takeRows(6, 8);
        for (int wrong = 0; wrong < 2; wrong++) {
            for (int often = 99; often > 0; often--) {
                for (int k = 0; k < now.words.size(); k++) {
                    if (wrongRows(rows, k) == wrong && now.words.get(k).often == often) {
                        return k;
                    }
                }
            }
        }
        return -1;
    }

    public int look() {
        int[][] rows = takeRows(6, 8);
        int[] greatest = new int[6];
        int fitting = 0;
        for (int place = 0; place < 6; place++) {
            Map<Integer, Integer> parts = new HashMap<>();
            fitting = 0;
            for (int k = 0; k < now.words.size(); k++) {
                if (wrongRows(rows, k) < 2) {
                    fitting++;
                    greatest[place] = Math.max(greatest[place], parts.merge(letter(k, place), 1, Integer::sum));
                }
            }
        }
        return fitting < 2 ? -1 : firstLeast(greatest);
    }

    private static int firstLeast(int[] numbers) {
        int least = Arrays.stream(numbers).min().orElse(0);
        for (int k = 0; k < numbers.length; k++) {
            if (numbers[k] == least) {
                return k;
            }
        }
        return -1;
    }

    public int hand(boolean least) {
        int[][] rows = takeRows(now.words.size(), 7);
        int many = 0;
        int first = -1;
        for (int set = 255; set >= 0; set--) {
            if (fits(rows, lettersOf(set))) {
                many++;
                first = set;
            }
        }
        return least ? first : many;
    }

    public int ask() {
        int[][] rows = takeRows(now.words.size(), 7);
        int[] greatest = new int[now.words.size()];
        int fitting = 0;
        for (int word = 0; word < greatest.length; word++) {
            Map<Integer, Integer> parts = new HashMap<>();
            fitting = 0;
            for (int set = 0; set < 256; set++) {
                if (fits(rows, lettersOf(set))) {
                    fitting++;
                    int strokes = marked(now, word, lettersOf(set)).length();
                    greatest[word] = Math.max(greatest[word], parts.merge(strokes, 1, Integer::sum));
                }
            }
        }
        return fitting < 2 ? -1 : firstLeast(greatest);
    }

    public int whose() {
        int[][] rows = takeRows(now.words.size(), 7);
        int bits = 0;
        for (int k = 0; k < now.writers.size(); k++) {
            bits |= fits(rows, now.writers.get(k).leaves) ? 1 << k : 0;
        }
        return bits;
    }

    public int fluent() {
        int bits = 0;
        for (int k = 0; k < now.writers.size(); k++) {
            bits |= times(k, now.tempo)[1] == 0 ? 1 << k : 0;
        }
        return bits;
    }

    public boolean better(int writer, int other) {
        needWriter(writer);
        needWriter(other);
        if (writer == other) {
            throw new IllegalArgumentException();
        }
        return trueOnes(writer) > trueOnes(other);
    }

    public int change(int word, int other) {
        needWord(word);
        needWord(other);
        return distance(now.words.get(word).letters, now.words.get(other).letters);
    }

    public int chain(int word, int other) {
        needWord(word);
        needWord(other);
        int many = now.words.size();
        int[][] steps = new int[many][many];
        for (int i = 0; i < many; i++) {
            for (int j = 0; j < many; j++) {
                steps[i][j] = i == j ? 0 : change(i, j) <= 1 ? 1 : 100;
            }
        }
        for (int k = 0; k < many; k++) {
            for (int i = 0; i < many; i++) {
                for (int j = 0; j < many; j++) {
                    steps[i][j] = Math.min(steps[i][j], steps[i][k] + steps[k][j]);
                }
            }
        }
        return steps[word][other] >= 100 ? -1 : steps[word][other];
    }

    public int echo() {
        StringBuilder all = new StringBuilder();
        now.speech.forEach(all::append);
        int longest = 0;
        for (int from = 0; from < all.length(); from++) {
            for (int to = from + 1; to <= all.length(); to++) {
                if (all.substring(to).contains(all.substring(from, to))) {
                    longest = Math.max(longest, to - from);
                }
            }
        }
        return longest;
    }

    public int pages(int writer, int n) {
        needWriter(writer);
        needNumber(n, 0, 99);
        int[] has = new int[now.writers.size()];
        for (int k = 0; k < n; k++) {
            int best = has.length - 1;
            for (int j = has.length - 1; j >= 0; j--) {
                if (now.writers.get(j).speed / (1 + has[j]) >= now.writers.get(best).speed / (1 + has[best])) {
                    best = j;
                }
            }
            has[best]++;
        }
        return has[writer];
    }

    public int pairs(int writer) {
        if (writer != -1) {
            needWriter(writer);
        }
        List<int[]> ways = new ArrayList<>();
        int[] with = new int[now.writers.size()];
        Arrays.fill(with, -2);
        allPairs(with, 0, ways);
        int most = 0;
        for (int[] way : ways) {
            most = Math.max(most, worth(way));
        }
        int[] first = null;
        for (int[] way : ways) {
            if (worth(way) == most && (first == null || Arrays.compare(way, first) < 0)) {
                first = way;
            }
        }
        return writer == -1 ? most : first[writer];
    }

    public int rests(int writer) {
        needWriter(writer);
        Writer one = now.writers.get(writer);
        int[][] its = {{one.skill, -(one.tired / 10)}, {1, 4}};
        int[][] speakers = {{2, 1}, {-one.speed, 3}};
        int bits = 0;
        for (int i = 0; i < 2; i++) {
            for (int j = 0; j < 2; j++) {
                if (its[1 - i][j] <= its[i][j] && speakers[i][1 - j] <= speakers[i][j]) {
                    bits |= 1 << 2 * i + j;
                }
            }
        }
        return bits;
    }

    public int odds(int writer, int word, int n) {
        needWriter(writer);
        needWord(word);
        needNumber(n, 0, 4);
        int odds = 10000;
        for (int k = 0; k < n; k++) {
            odds = (odds * (100 - slipsOf(now, writer, word)) - 0) / 100;
        }
        return odds;
    }

    public int oftenest(boolean often) {
        int best = -1;
        int most = 0;
        for (int k = 0; k < now.words.size(); k++) {
            int value = often ? now.words.get(k).often : now.words.get(k).letters.length();
            if (value > most) {
                best = k;
                most = value;
            }
        }
        return best;
    }

    public int quickest(boolean speed) {
        int best = -1;
        int most = -1;
        for (int k = 0; k < now.writers.size(); k++) {
            int value = speed ? now.writers.get(k).speed : now.writers.get(k).tired;
            if (value > most) {
                best = k;
                most = value;
            }
        }
        return best;
    }

    public int twins() {
        int many = 0;
        for (int i = 0; i < now.words.size(); i++) {
            for (int j = 0; j < i; j++) {
                char[] one = now.words.get(i).letters.toCharArray();
                char[] other = now.words.get(j).letters.toCharArray();
                Arrays.sort(one);
                Arrays.sort(other);
                many += Arrays.equals(one, other) ? 1 : 0;
            }
        }
        return many;
    }

    public int uses(int letter) {
        if (letter < 0 || letter > 7) {
            throw new IndexOutOfBoundsException();
        }
        int bits = 0;
        for (int k = 0; k < now.words.size(); k++) {
            bits |= now.words.get(k).letters.indexOf('a' + letter) >= 0 ? 1 << k : 0;
        }
        return bits;
    }

    public int silent() {
        int bits = 255;
        for (Word word : now.words) {
            bits &= ~bitsOf(word.letters);
        }
        return bits;
    }

    public int ahead(int writer, int n) {
        needWriter(writer);
        needNumber(n, 0, 60);
        World later = now.copy();
        for (int k = 0; k < n; k++) {
            minute(later, false);
        }
        return later.writers.get(writer).tired;
    }

    public int trial(int n, boolean tired) {
        needNumber(n, 0, 60);
        World later = now.copy();
        for (int k = 0; k < n; k++) {
            minute(later, true);
        }
        return tired ? later.writers.stream().mapToInt(one -> one.tired).sum() : tally(1, later);
    }

    public int span(int n, boolean most) {
        needNumber(n, 0, 60);
        int[] slipped = new int[6];
        for (int seed = 1; seed <= 6; seed++) {
            World later = now.copy();
            later.seed = seed;
            for (int k = 0; k < n; k++) {
                minute(later, true);
            }
            slipped[seed - 1] = tally(2, later);
        }
        Arrays.sort(slipped);
        return slipped[most ? 5 : 0];
    }

    public int led(int writer, boolean minute) {
        needWriter(writer);
        int many = 0;
        int latest = -1;
        for (int[] row : now.log) {
            if (row[1] == writer) {
                latest = many == 0 ? row[0] : latest;
                many++;
            }
        }
        return minute ? latest : many;
    }

    public int log(int ago, int what) {
        if (what < 0 || what > 3) {
            throw new NoSuchElementException();
        }
        return ago < 0 || ago >= now.log.size() ? -1 : now.log.get(ago)[what];
    }

    public int seed(int n) {
        int was = now.seed;
        now.seed = n;
        return was;
    }

    public boolean undo() {
        if (acts.isEmpty()) {
            return false;
        }
        now = acts.removeLast();
        return true;
    }

    public void image() {
        image = now.copy();
    }

    public boolean back() {
        if (image == null) {
            return false;
        }
        now = image.copy();
        acts.clear();
        return true;
    }

    public int count(int what) {
        switch (what) {
            case 0: return now.words.size();
            case 1: return now.writers.size();
            case 2: return now.texts;
            case 3: return now.law == null ? -1 : now.law.size();
            case 4: return now.speech.size();
            case 5: return now.said;
            case 6: return now.tempo;
            case 7: return now.slip;
            case 8: return now.minute;
            case 9: return now.writers.stream().mapToInt(one -> one.tired).sum();
            case 10: return now.log.size();
            case 11: return acts.size();
            default: return -1;
        }
    }
}
