import java.util.Arrays;
import java.util.NoSuchElementException;

/** An evening of shorthand: words, a speech of them, and writers who leave letters out. */
public final class PencilUp {
    public static final int NONE = -1;

    private static final int LETTERS = 8;
    private static final int LETTER_SETS = 256;
    private static final int MOST_WORDS = 8;
    private static final int LONGEST_WORD = 6;
    private static final int LONGEST_SPEECH = 20;
    private static final int MOST_WRITERS = 5;
    private static final int MOST_TEXTS = 12;
    private static final int MOST_ACTS = 12;
    private static final int MOST_OFTEN = 99;
    private static final int MOST_SPEED = 9;
    private static final int MOST_SKILL = 9;
    private static final int MOST_TIRED = 99;
    private static final int MOST_TEMPO = 9;
    private static final int MOST_SLIP = 100;
    private static final int MOST_MINUTES = 60;
    private static final int LAST_MINUTE = 9999;
    private static final int MOST_PRICE = 999;
    private static final int MOST_PAGES = 99;
    private static final int MOST_ODDS = 4;
    private static final int SEEDS = 6;
    private static final int BYTES_FED = 20;

    private static final int MISSED = 0;
    private static final int WRITTEN = 1;
    private static final int SLIPPED = 2;

    private final Tape tape = new Tape();
    private final State now = new State();
    private final State draft = new State();
    private final EveningReader eveningReader = new EveningReader(tape, draft);
    private final LawReader lawReader = new LawReader(tape);
    private final Hand hand = new Hand();
    private final Clock clock = new Clock(hand);
    private final Lexicon lexicon = new Lexicon(now);
    private final Clues clues = new Clues(tape, now);
    private final Scores scores = new Scores(now, hand);
    private final State[] memory = new State[MOST_ACTS];
    private int oldest;
    private int remembered;
    private State kept;
    private int firstWrong = NONE;

    public PencilUp() {
    }

    // ---- the tape and the texts ----

    public int feed(int a, int b, int c, int d, int e) {
        if (tape.length + BYTES_FED > Tape.MOST) {
            return NONE;
        }
        tape.addNumber(a);
        tape.addNumber(b);
        tape.addNumber(c);
        tape.addNumber(d);
        tape.addNumber(e);
        return tape.length;
    }

    public boolean end(int n) {
        if (n < 0 || n > tape.length) {
            return false;
        }
        tape.length = n;
        return true;
    }

    public int evening() throws IllegalArgumentException, UnsupportedOperationException {
        draft.copyFrom(now);
        boolean right = eveningReader.readsText();
        firstWrong = tape.wrong;
        if (!right) {
            throw new IllegalArgumentException("the text is wrong");
        }
        if (now.texts >= MOST_TEXTS) {
            throw new UnsupportedOperationException("there are 12 texts");
        }
        now.copyFrom(draft);
        now.texts++;
        forgetActs();
        return now.texts;
    }

    public int law() throws IllegalArgumentException {
        boolean right = lawReader.readsText();
        firstWrong = tape.wrong;
        if (!right) {
            throw new IllegalArgumentException("the text is wrong");
        }
        Law read = lawReader.newLaw();
        now.law = read;
        forgetActs();
        return read.lines;
    }

    public int fault() {
        return firstWrong;
    }

    // ---- what there is ----

    public int word(int word, int what) throws IndexOutOfBoundsException, NoSuchElementException {
        needWord(word);
        switch (what) {
            case 0:
                return now.lengths[word];
            case 1:
                return now.often[word];
            case 2:
                return lexicon.codeLength(word);
            case 3:
                return lexicon.closestTo(word);
            default:
                throw new NoSuchElementException("no such thing of a word");
        }
    }

    public int letter(int word, int place) throws IndexOutOfBoundsException {
        needWord(word);
        return now.letterAt(word, place);
    }

    public int writer(int writer, int what) throws IndexOutOfBoundsException, NoSuchElementException {
        needWriter(writer);
        switch (what) {
            case 0:
                return now.leaves[writer];
            case 1:
                return now.speed[writer];
            case 2:
                return now.skill[writer];
            case 3:
                return now.tired[writer];
            case 4:
                return handOf(writer).clean();
            case 5:
                return handOf(writer).lost();
            case 6:
                return handOf(writer).saved();
            case 7:
                return scores.doneOf(writer);
            case 8:
                return scores.lagOf(writer, now.tempo);
            case 9:
                return scores.edgeOf(writer);
            case 10:
                return scores.runOf(writer);
            case 11:
                return scores.gapsOf(writer);
            case 12:
                return scores.trueOf(writer);
            case 13:
                return scores.shareOf(writer);
            default:
                throw new NoSuchElementException("no such thing of a writer");
        }
    }

    public int speech(int k) {
        return k < 0 || k >= now.spoken ? NONE : now.speech[k];
    }

    public int page(int writer, int k) throws IndexOutOfBoundsException {
        needWriter(writer);
        return k < 0 || k >= now.said ? NONE : now.onPage(writer, k);
    }

    public int strokes(int writer, int word) throws IndexOutOfBoundsException {
        needWriter(writer);
        needWord(word);
        return now.strokesOf(word, now.leaves[writer]);
    }

    public int mark(int writer, int word, int k) throws IndexOutOfBoundsException {
        needWriter(writer);
        needWord(word);
        int stroke = 0;
        for (int place = 0; place < now.lengths[word]; place++) {
            int letter = now.letterAt(word, place);
            if ((now.leaves[writer] >> letter & 1) == 0) {
                if (stroke == k) {
                    return letter;
                }
                stroke++;
            }
        }
        return NONE;
    }

    public int alike(int writer, int word) throws IndexOutOfBoundsException {
        needWriter(writer);
        needWord(word);
        return handOf(writer).alikeTo(word);
    }

    public int reads(int writer, int word) throws IndexOutOfBoundsException {
        needWriter(writer);
        needWord(word);
        return handOf(writer).readAs(word);
    }

    public boolean keepsUp(int writer, int word) throws IndexOutOfBoundsException {
        needWriter(writer);
        needWord(word);
        clock.observe(now, writer, word);
        return clock.isKeepingUp(now);
    }

    public int slips(int writer, int word) throws IndexOutOfBoundsException {
        needWriter(writer);
        needWord(word);
        clock.observe(now, writer, word);
        return clock.slipsOf(now);
    }

    // ---- acts ----

    public int minutes(int n) throws IllegalArgumentException {
        needNumber(n, 1, MOST_MINUTES);
        rememberNow();
        return clock.pass(now, n, true);
    }

    public int speak(int word) throws IndexOutOfBoundsException, IllegalStateException {
        needWord(word);
        if (now.spoken >= LONGEST_SPEECH) {
            throw new IllegalStateException("the speech has 20 words");
        }
        rememberNow();
        now.speech[now.spoken] = word;
        now.spoken++;
        return now.spoken;
    }

    public boolean leave(int writer, int letter, boolean is) throws IndexOutOfBoundsException {
        needWriter(writer);
        needLetter(letter);
        rememberNow();
        boolean was = (now.leaves[writer] >> letter & 1) == 1;
        if (was != is) {
            now.leaves[writer] ^= 1 << letter;
        }
        return was != is;
    }

    public int learn(int writer) throws IndexOutOfBoundsException {
        needWriter(writer);
        rememberNow();
        now.skill[writer] = Math.min(now.skill[writer] + 1, MOST_SKILL);
        return now.skill[writer];
    }

    public int rest(int writer) throws IndexOutOfBoundsException {
        needWriter(writer);
        rememberNow();
        int was = now.tired[writer];
        now.tired[writer] = 0;
        return was;
    }

    public int often(int word, int n) throws IndexOutOfBoundsException, IllegalArgumentException {
        needWord(word);
        needNumber(n, 1, MOST_OFTEN);
        rememberNow();
        int was = now.often[word];
        now.often[word] = n;
        return was;
    }

    public int tempo(int n) throws IllegalArgumentException {
        needNumber(n, 1, MOST_TEMPO);
        rememberNow();
        int was = now.tempo;
        now.tempo = n;
        return was;
    }

    public int speed(int writer, int n) throws IndexOutOfBoundsException, IllegalArgumentException {
        needWriter(writer);
        needNumber(n, 1, MOST_SPEED);
        rememberNow();
        int was = now.speed[writer];
        now.speed[writer] = n;
        return was;
    }

    // ---- what could be left out ----

    public int keep() {
        int best = NONE;
        int fewest = LETTERS + 1;
        for (int set = 0; set < LETTER_SETS; set++) {
            if (Integer.bitCount(set) < fewest) {
                hand.take(now, LETTER_SETS - 1 - set);
                if (hand.allDiffer()) {
                    best = set;
                    fewest = Integer.bitCount(set);
                }
            }
        }
        return best;
    }

    public int leaves(int p, boolean saved) throws IllegalArgumentException {
        needNumber(p, 0, MOST_PRICE);
        int best = NONE;
        int most = NONE;
        for (int set = 0; set < LETTER_SETS; set++) {
            hand.take(now, set);
            if (hand.saved() > most && hand.lost() <= p) {
                best = set;
                most = hand.saved();
            }
        }
        return saved ? most : best;
    }

    public int codes() {
        return lexicon.codesTogether();
    }

    // ---- what it was, by rows on the tape ----

    public int heard() throws IllegalArgumentException {
        needRows(clues.takeHeard());
        return clues.fittingWords();
    }

    public int likely() throws IllegalArgumentException {
        needRows(clues.takeHeard());
        return clues.likeliest();
    }

    public int look() throws IllegalArgumentException {
        needRows(clues.takeHeard());
        return clues.placeToLook();
    }

    public int hand(boolean least) throws IllegalArgumentException {
        needRows(clues.takeHand());
        int sets = clues.findSets();
        return least ? clues.leastSet() : sets;
    }

    public int ask() throws IllegalArgumentException {
        needRows(clues.takeHand());
        clues.findSets();
        return clues.wordToAsk();
    }

    public int whose() throws IllegalArgumentException {
        needRows(clues.takeHand());
        return clues.fittingWriters();
    }

    // ---- words and writers against one another ----

    public int fluent() {
        int bits = 0;
        for (int writer = 0; writer < now.writers; writer++) {
            if (scores.lagOf(writer, now.tempo) == 0) {
                bits |= 1 << writer;
            }
        }
        return bits;
    }

    public boolean better(int writer, int other) throws IndexOutOfBoundsException, IllegalArgumentException {
        needWriter(writer);
        needWriter(other);
        if (writer == other) {
            throw new IllegalArgumentException("both are one");
        }
        return scores.trueOf(writer) > scores.trueOf(other);
    }

    public int change(int word, int other) throws IndexOutOfBoundsException {
        needWord(word);
        needWord(other);
        return lexicon.changeOf(word, other);
    }

    public int chain(int word, int other) throws IndexOutOfBoundsException {
        needWord(word);
        needWord(other);
        return lexicon.stepsBetween(word, other);
    }

    public int echo() {
        return lexicon.longestEcho();
    }

    public int pages(int writer, int n) throws IndexOutOfBoundsException, IllegalArgumentException {
        needWriter(writer);
        needNumber(n, 0, MOST_PAGES);
        return scores.pagesOf(writer, n);
    }

    public int pairs(int writer) throws IndexOutOfBoundsException {
        if (writer != NONE) {
            needWriter(writer);
        }
        int together = scores.findPairs();
        return writer == NONE ? together : scores.partnerOf(writer);
    }

    public int rests(int writer) throws IndexOutOfBoundsException {
        needWriter(writer);
        return scores.steadyChoices(writer);
    }

    public int odds(int writer, int word, int n) throws IndexOutOfBoundsException, IllegalArgumentException {
        needWriter(writer);
        needWord(word);
        needNumber(n, 0, MOST_ODDS);
        clock.observe(now, writer, word);
        int stays = 100 - clock.slipsOf(now);
        int odds = 10000;
        for (int k = 0; k < n; k++) {
            odds = odds * stays / 100;
        }
        return odds;
    }

    public int oftenest(boolean often) {
        return greatest(often ? now.often : now.lengths, now.words);
    }

    public int quickest(boolean speed) {
        return greatest(speed ? now.speed : now.tired, now.writers);
    }

    public int twins() {
        return lexicon.countTwins();
    }

    public int uses(int letter) throws IndexOutOfBoundsException {
        needLetter(letter);
        return lexicon.usersOf(letter);
    }

    public int silent() {
        int bits = 0;
        for (int letter = 0; letter < LETTERS; letter++) {
            if (lexicon.usersOf(letter) == 0) {
                bits |= 1 << letter;
            }
        }
        return bits;
    }

    // ---- minutes that do not stay ----

    public int ahead(int writer, int n) throws IndexOutOfBoundsException, IllegalArgumentException {
        needWriter(writer);
        needNumber(n, 0, MOST_MINUTES);
        draft.copyFrom(now);
        clock.pass(draft, n, false);
        return draft.tired[writer];
    }

    public int trial(int n, boolean tired) throws IllegalArgumentException {
        needNumber(n, 0, MOST_MINUTES);
        draft.copyFrom(now);
        clock.pass(draft, n, true);
        return tired ? draft.tiredTogether() : draft.onAllPages(WRITTEN);
    }

    public int span(int n, boolean most) throws IllegalArgumentException {
        needNumber(n, 0, MOST_MINUTES);
        int least = MOST_WRITERS * LONGEST_SPEECH;
        int greatest = 0;
        for (int start = 1; start <= SEEDS; start++) {
            draft.copyFrom(now);
            draft.seed = start;
            clock.pass(draft, n, true);
            int slipped = draft.onAllPages(SLIPPED);
            least = Math.min(least, slipped);
            greatest = Math.max(greatest, slipped);
        }
        return most ? greatest : least;
    }

    // ---- the log, going back, counts ----

    public int led(int writer, boolean minute) throws IndexOutOfBoundsException {
        needWriter(writer);
        return minute ? now.log.latestOf(writer) : now.log.rowsOf(writer);
    }

    public int log(int ago, int what) throws NoSuchElementException {
        if (what < 0 || what >= Log.WIDTH) {
            throw new NoSuchElementException("no such thing of a row");
        }
        return now.log.tell(ago, what);
    }

    public int seed(int n) {
        int was = now.seed;
        now.seed = n;
        return was;
    }

    public boolean undo() {
        if (remembered <= 0) {
            return false;
        }
        State before = memory[(oldest + remembered - 1) % MOST_ACTS];
        if (before == null) {
            return false;
        }
        now.copyFrom(before);
        remembered--;
        return true;
    }

    public void image() {
        if (kept == null) {
            kept = new State();
        }
        kept.copyFrom(now);
    }

    public boolean back() {
        if (kept == null) {
            return false;
        }
        now.copyFrom(kept);
        forgetActs();
        return true;
    }

    public int count(int what) {
        switch (what) {
            case 0:
                return now.words;
            case 1:
                return now.writers;
            case 2:
                return now.texts;
            case 3:
                return now.law == null ? NONE : now.law.lines;
            case 4:
                return now.spoken;
            case 5:
                return now.said;
            case 6:
                return now.tempo;
            case 7:
                return now.slip;
            case 8:
                return now.minute;
            case 9:
                return now.tiredTogether();
            case 10:
                return now.log.size;
            case 11:
                return remembered;
            default:
                return NONE;
        }
    }

    // ---- what the calls above share ----

    private void needWord(int word) {
        if (word < 0 || word >= now.words) {
            throw new IndexOutOfBoundsException("no such word");
        }
    }

    private void needWriter(int writer) {
        if (writer < 0 || writer >= now.writers) {
            throw new IndexOutOfBoundsException("no such writer");
        }
    }

    private void needLetter(int letter) {
        if (letter < 0 || letter >= LETTERS) {
            throw new IndexOutOfBoundsException("no such letter");
        }
    }

    private void needNumber(int n, int least, int most) {
        if (n < least || n > most) {
            throw new IllegalArgumentException("the number is none");
        }
    }

    private void needRows(boolean right) {
        if (!right) {
            throw new IllegalArgumentException("the tape is not that");
        }
    }

    private Hand handOf(int writer) {
        hand.take(now, now.leaves[writer]);
        return hand;
    }

    private int greatest(int[] values, int many) {
        int best = NONE;
        for (int k = 0; k < many; k++) {
            if (best == NONE || values[k] > values[best]) {
                best = k;
            }
        }
        return best;
    }

    private void rememberNow() {
        if (remembered >= MOST_ACTS) {
            oldest = (oldest + 1) % MOST_ACTS;
            remembered = MOST_ACTS - 1;
        }
        int slot = (oldest + remembered) % MOST_ACTS;
        // Made when first needed: few runs come to 12 acts, and no state is ever freed.
        if (memory[slot] == null) {
            memory[slot] = new State();
        }
        memory[slot].copyFrom(now);
        remembered++;
    }

    private void forgetActs() {
        remembered = 0;
    }

    /** All that an act undone, or the image, brings back. */
    private static final class State {
        int words;
        final int[] letters = new int[MOST_WORDS * LONGEST_WORD];
        final int[] lengths = new int[MOST_WORDS];
        final int[] often = new int[MOST_WORDS];
        int spoken;
        final int[] speech = new int[LONGEST_SPEECH];
        int said;
        int writers;
        final int[] leaves = new int[MOST_WRITERS];
        final int[] speed = new int[MOST_WRITERS];
        final int[] skill = new int[MOST_WRITERS];
        final int[] tired = new int[MOST_WRITERS];
        final int[] pages = new int[MOST_WRITERS * LONGEST_SPEECH];
        int tempo = 3;
        int slip;
        int minute;
        int seed = 1;
        int texts;
        Law law;
        final Log log = new Log();

        void copyFrom(State other) {
            words = other.words;
            System.arraycopy(other.letters, 0, letters, 0, letters.length);
            System.arraycopy(other.lengths, 0, lengths, 0, lengths.length);
            System.arraycopy(other.often, 0, often, 0, often.length);
            spoken = other.spoken;
            System.arraycopy(other.speech, 0, speech, 0, speech.length);
            said = other.said;
            writers = other.writers;
            System.arraycopy(other.leaves, 0, leaves, 0, leaves.length);
            System.arraycopy(other.speed, 0, speed, 0, speed.length);
            System.arraycopy(other.skill, 0, skill, 0, skill.length);
            System.arraycopy(other.tired, 0, tired, 0, tired.length);
            System.arraycopy(other.pages, 0, pages, 0, pages.length);
            tempo = other.tempo;
            slip = other.slip;
            minute = other.minute;
            seed = other.seed;
            texts = other.texts;
            // A law never changes once it is made, so that states may share it.
            law = other.law;
            log.copyFrom(other.log);
        }

        int letterAt(int word, int place) {
            return place < 0 || place >= lengths[word] ? NONE : letters[word * LONGEST_WORD + place];
        }

        int strokesOf(int word, int left) {
            int strokes = 0;
            for (int place = 0; place < lengths[word]; place++) {
                if ((left >> letters[word * LONGEST_WORD + place] & 1) == 0) {
                    strokes++;
                }
            }
            return strokes;
        }

        int onPage(int writer, int k) {
            return pages[writer * LONGEST_SPEECH + k];
        }

        int onPageOf(int writer, int outcome) {
            int many = 0;
            for (int k = 0; k < said; k++) {
                if (onPage(writer, k) == outcome) {
                    many++;
                }
            }
            return many;
        }

        int onAllPages(int outcome) {
            int many = 0;
            for (int writer = 0; writer < writers; writer++) {
                many += onPageOf(writer, outcome);
            }
            return many;
        }

        int tiredTogether() {
            int together = 0;
            for (int writer = 0; writer < writers; writer++) {
                together += tired[writer];
            }
            return together;
        }

        int draw() {
            seed = 1103515245 * seed + 12345;
            return seed >>> 16 & 0x7fff;
        }
    }

    /** The latest 60 outcomes, in a ring. */
    private static final class Log {
        static final int MOST = 60;
        static final int WIDTH = 4;
        final int[] rows = new int[MOST * WIDTH];
        int size;
        int next;

        void copyFrom(Log other) {
            System.arraycopy(other.rows, 0, rows, 0, rows.length);
            size = other.size;
            next = other.next;
        }

        void add(int minute, int writer, int word, int outcome) {
            int at = next * WIDTH;
            rows[at] = minute;
            rows[at + 1] = writer;
            rows[at + 2] = word;
            rows[at + 3] = outcome;
            next = (next + 1) % MOST;
            size = Math.min(size + 1, MOST);
        }

        int tell(int ago, int what) {
            return ago < 0 || ago >= size ? NONE : rows[(next + MOST - 1 - ago) % MOST * WIDTH + what];
        }

        int rowsOf(int writer) {
            int many = 0;
            for (int ago = 0; ago < size; ago++) {
                if (tell(ago, 1) == writer) {
                    many++;
                }
            }
            return many;
        }

        int latestOf(int writer) {
            for (int ago = 0; ago < size; ago++) {
                if (tell(ago, 1) == writer) {
                    return tell(ago, 0);
                }
            }
            return NONE;
        }
    }

    /** Bytes that are fed, and a reading of them as a text, thing by thing. */
    private static final class Tape {
        static final int MOST = 400;
        static final int END = 0;
        static final int NAME = 1;
        static final int NUMBER = 2;
        static final int SIGN = 3;
        static final int MOST_DIGITS = 3;
        final int[] bytes = new int[MOST];
        int length;
        int size;
        int kind;
        int from;
        int to;
        // A number's, NONE of more digits than it may have; a sign's byte.
        int value;
        int wrong = NONE;

        void addNumber(int number) {
            for (int shift = 24; shift >= 0; shift -= 8) {
                if (length < MOST) {
                    bytes[length] = number >>> shift & 255;
                    length++;
                }
            }
        }

        /** Uses the tape up as a text, and stands at its first thing. */
        void open() {
            size = length;
            length = 0;
            to = 0;
            wrong = NONE;
            step();
        }

        void step() {
            int at = to;
            while (at < size && bytes[at] == ' ') {
                at++;
            }
            from = at;
            value = 0;
            if (at >= size) {
                kind = END;
            } else if (bytes[at] >= 'a' && bytes[at] <= 'z') {
                kind = NAME;
                while (at < size && bytes[at] >= 'a' && bytes[at] <= 'z') {
                    at++;
                }
            } else if (bytes[at] >= '0' && bytes[at] <= '9') {
                kind = NUMBER;
                while (at < size && bytes[at] >= '0' && bytes[at] <= '9') {
                    value = at - from < MOST_DIGITS ? value * 10 + bytes[at] - '0' : NONE;
                    at++;
                }
            } else {
                kind = SIGN;
                value = bytes[at];
                at++;
            }
            to = at;
        }

        boolean isName(String name) {
            if (kind != NAME || to - from != name.length()) {
                return false;
            }
            for (int k = 0; k < name.length(); k++) {
                if (bytes[from + k] != name.charAt(k)) {
                    return false;
                }
            }
            return true;
        }

        boolean takesName(String name) {
            boolean is = isName(name);
            if (is) {
                step();
            }
            return is;
        }

        boolean isSign(char sign) {
            return kind == SIGN && value == sign;
        }

        boolean takesSign(char sign) {
            boolean is = isSign(sign);
            if (is) {
                step();
            }
            return is;
        }

        int takeNumber(int least, int most) {
            if (kind != NUMBER || value < least || value > most) {
                refuse();
                return NONE;
            }
            int number = value;
            step();
            return number;
        }

        /** The LETTER that a byte of the name tells; NONE if it tells none. */
        int letterOfName(int k) {
            int letter = bytes[from + k] - 'a';
            return letter < 0 || letter >= LETTERS ? NONE : letter;
        }

        /** Says that what stands here cannot stand here; always false. */
        boolean refuse() {
            if (wrong == NONE) {
                wrong = from;
            }
            return false;
        }
    }

    /** Reads a text of the evening into a draft, which is thrown away if the text is wrong. */
    private static final class EveningReader {
        static final int MOST_LINES = 14;
        static final int MOST_AT_ONCE = 6;
        static final int MOST_MINUTE = 999;
        final Tape text;
        final State draft;

        EveningReader(Tape text, State draft) {
            this.text = text;
            this.draft = draft;
        }

        boolean readsText() {
            text.open();
            if (text.kind == Tape.END) {
                return true;
            }
            for (int lines = 0; lines < MOST_LINES; lines++) {
                if (!readsLine()) {
                    return false;
                }
                if (text.kind == Tape.END) {
                    return true;
                }
                if (!text.takesSign(';')) {
                    return text.refuse();
                }
            }
            return text.refuse();
        }

        boolean readsLine() {
            if (text.isName("word")) {
                return readsWord();
            }
            if (text.isName("writer")) {
                return readsWriter();
            }
            if (text.takesName("speech")) {
                return readsSpeech();
            }
            if (text.takesName("tempo")) {
                draft.tempo = text.takeNumber(1, MOST_TEMPO);
                return draft.tempo != NONE;
            }
            if (text.takesName("slip")) {
                draft.slip = text.takeNumber(0, MOST_SLIP);
                return draft.slip != NONE;
            }
            if (text.takesName("minute")) {
                draft.minute = text.takeNumber(0, MOST_MINUTE);
                return draft.minute != NONE;
            }
            return text.refuse();
        }

        boolean readsWord() {
            int word = draft.words;
            if (word >= MOST_WORDS) {
                return text.refuse();
            }
            text.step();
            int many = text.to - text.from;
            if (text.kind != Tape.NAME || many > LONGEST_WORD) {
                return text.refuse();
            }
            for (int k = 0; k < many; k++) {
                int letter = text.letterOfName(k);
                if (letter == NONE) {
                    return text.refuse();
                }
                draft.letters[word * LONGEST_WORD + k] = letter;
            }
            draft.lengths[word] = many;
            text.step();
            if (!text.takesName("often")) {
                return text.refuse();
            }
            draft.often[word] = text.takeNumber(1, MOST_OFTEN);
            draft.words++;
            return draft.often[word] != NONE;
        }

        boolean readsWriter() {
            int writer = draft.writers;
            if (writer >= MOST_WRITERS) {
                return text.refuse();
            }
            text.step();
            if (!text.takesName("speed")) {
                return text.refuse();
            }
            int speed = text.takeNumber(1, MOST_SPEED);
            if (speed == NONE) {
                return false;
            }
            int skill = text.takesName("skill") ? text.takeNumber(0, MOST_SKILL) : 0;
            if (skill == NONE) {
                return false;
            }
            int tired = text.takesName("tired") ? text.takeNumber(0, MOST_TIRED) : 0;
            if (tired == NONE) {
                return false;
            }
            int leaves = text.takesName("leaves") ? takeLetterSet() : 0;
            if (leaves == NONE) {
                return false;
            }
            addWriter(speed, skill, tired, leaves);
            return true;
        }

        void addWriter(int speed, int skill, int tired, int leaves) {
            int writer = draft.writers;
            draft.speed[writer] = speed;
            draft.skill[writer] = skill;
            draft.tired[writer] = tired;
            draft.leaves[writer] = leaves;
            for (int k = 0; k < LONGEST_SPEECH; k++) {
                draft.pages[writer * LONGEST_SPEECH + k] = MISSED;
            }
            draft.writers++;
        }

        int takeLetterSet() {
            if (text.kind != Tape.NAME) {
                text.refuse();
                return NONE;
            }
            int set = 0;
            for (int k = 0; k < text.to - text.from; k++) {
                int letter = text.letterOfName(k);
                if (letter == NONE || (set >> letter & 1) == 1) {
                    text.refuse();
                    return NONE;
                }
                set |= 1 << letter;
            }
            text.step();
            return set;
        }

        boolean readsSpeech() {
            for (int k = 0; k < MOST_AT_ONCE; k++) {
                if (k > 0 && text.kind != Tape.NUMBER) {
                    return true;
                }
                if (draft.spoken >= LONGEST_SPEECH) {
                    return text.refuse();
                }
                int word = text.takeNumber(0, draft.words - 1);
                if (word == NONE) {
                    return false;
                }
                draft.speech[draft.spoken] = word;
                draft.spoken++;
            }
            return text.kind != Tape.NUMBER || text.refuse();
        }
    }

    /** Reads a text of the law into code: conditions behind their operands, so that a stack works them out. */
    private static final class LawReader {
        static final int DEEPEST = 6;
        static final int MOST_AMOUNT = 99;
        final Tape text;
        final int[] kinds = new int[Law.MOST_LINES];
        final int[] amounts = new int[Law.MOST_LINES];
        final int[] begins = new int[Law.MOST_LINES + 1];
        final int[] code = new int[Tape.MOST];
        int lines;
        int size;

        LawReader(Tape text) {
            this.text = text;
        }

        boolean readsText() {
            text.open();
            lines = 0;
            size = 0;
            if (text.kind == Tape.END) {
                return true;
            }
            for (int k = 0; k < Law.MOST_LINES; k++) {
                if (!readsLine()) {
                    return false;
                }
                if (text.kind == Tape.END) {
                    return true;
                }
                if (!text.takesSign(';')) {
                    return text.refuse();
                }
            }
            return text.refuse();
        }

        Law newLaw() {
            return new Law(lines, kinds, amounts, begins, code);
        }

        boolean readsLine() {
            int kind = takeKind();
            if (kind == NONE || lines >= Law.MOST_LINES) {
                return text.refuse();
            }
            int amount = text.takeNumber(0, MOST_AMOUNT);
            if (amount == NONE) {
                return false;
            }
            if (text.takesName("if") && !readsCondition(0)) {
                return false;
            }
            kinds[lines] = kind;
            amounts[lines] = amount;
            lines++;
            begins[lines] = size;
            return true;
        }

        int takeKind() {
            if (text.takesName("tire")) {
                return Law.TIRE;
            }
            if (text.takesName("rest")) {
                return Law.REST;
            }
            return text.takesName("slip") ? Law.SLIP : NONE;
        }

        private boolean readsCondition(int depth) {
            for (int alls = 0; alls < Tape.MOST; alls++) {
                if (!readsAtom(depth)) {
                    return false;
                }
                for (int more = 0; more < Tape.MOST && text.takesName("and"); more++) {
                    if (!readsAtom(depth)) {
                        return false;
                    }
                    put(Law.AND);
                }
                if (alls > 0) {
                    put(Law.OR);
                }
                if (!text.takesName("or")) {
                    return true;
                }
            }
            return text.refuse();
        }

        private boolean readsAtom(int depth) {
            boolean isNot = text.isName("not");
            boolean isBracket = text.isSign('(');
            if (isNot || isBracket) {
                if (depth >= DEEPEST) {
                    return text.refuse();
                }
                text.step();
            }
            if (isBracket) {
                return readsCondition(depth + 1) && (text.takesSign(')') || text.refuse());
            }
            if (isNot) {
                return readsAtom(depth + 1) && put(Law.NOT);
            }
            if (text.takesName("kept")) {
                return put(Law.FACT + Law.KEPT);
            }
            if (text.takesName("sure")) {
                return put(Law.FACT + Law.SURE);
            }
            if (!readsSum()) {
                return false;
            }
            int order = takeOrder();
            return order == NONE ? text.refuse() : readsSum() && put(order);
        }

        int takeOrder() {
            if (text.takesSign('<')) {
                return Law.LESS;
            }
            return text.takesSign('>') ? Law.MORE : NONE;
        }

        boolean readsSum() {
            for (int parts = 0; parts < Tape.MOST; parts++) {
                int part = partHere();
                if (part == NONE) {
                    return text.refuse();
                }
                text.step();
                put(part);
                if (parts > 0) {
                    put(Law.PLUS);
                }
                if (!text.takesSign('+')) {
                    return true;
                }
            }
            return text.refuse();
        }

        /** The step of code for the part of a sum that stands here; NONE if none does. */
        int partHere() {
            if (text.kind == Tape.NUMBER) {
                return text.value;
            }
            if (text.isName("writer")) {
                return Law.FACT + Law.WRITER;
            }
            if (text.isName("word")) {
                return Law.FACT + Law.WORD;
            }
            if (text.isName("strokes")) {
                return Law.FACT + Law.STROKES;
            }
            if (text.isName("letters")) {
                return Law.FACT + Law.LENGTH;
            }
            if (text.isName("speed")) {
                return Law.FACT + Law.SPEED;
            }
            if (text.isName("skill")) {
                return Law.FACT + Law.SKILL;
            }
            return text.isName("tired") ? Law.FACT + Law.TIRED : NONE;
        }

        /** Puts a step behind the code; each takes a byte of the text at least, so that there is room: always true. */
        boolean put(int step) {
            if (size < code.length) {
                code[size] = step;
                size++;
            }
            return true;
        }
    }

    /** A law that was read; it never changes. */
    private static final class Law {
        static final int MOST_LINES = 12;
        static final int TIRE = 0;
        static final int REST = 1;
        static final int SLIP = 2;

        static final int WRITER = 0;
        static final int WORD = 1;
        static final int STROKES = 2;
        static final int LENGTH = 3;
        static final int SPEED = 4;
        static final int SKILL = 5;
        static final int TIRED = 6;
        static final int KEPT = 7;
        static final int SURE = 8;
        static final int FACTS = 9;

        // Steps of the code: below FACT a number, from there on a fact, then what works on the stack.
        static final int FACT = 1000;
        static final int NOT = 2000;
        static final int AND = 2001;
        static final int OR = 2002;
        static final int LESS = 2003;
        static final int MORE = 2004;
        static final int PLUS = 2005;
        // Six brackets hold an "or" and an "and" each, and a comparison three numbers: 17 at most.
        static final int STACK = 32;

        final int lines;
        final int[] kinds;
        final int[] amounts;
        final int[] begins;
        final int[] code;
        final int[] stack = new int[STACK];

        Law(int lines, int[] kinds, int[] amounts, int[] begins, int[] code) {
            this.lines = lines;
            this.kinds = Arrays.copyOf(kinds, lines);
            this.amounts = Arrays.copyOf(amounts, lines);
            this.begins = Arrays.copyOf(begins, lines + 1);
            this.code = Arrays.copyOf(code, begins[lines]);
        }

        int sumOf(int kind, int[] facts) {
            int sum = 0;
            for (int line = 0; line < lines; line++) {
                if (kinds[line] == kind && holds(line, facts)) {
                    sum += amounts[line];
                }
            }
            return sum;
        }

        boolean holds(int line, int[] facts) {
            int top = 0;
            for (int k = begins[line]; k < begins[line + 1]; k++) {
                int step = code[k];
                if (step < NOT) {
                    if (top >= STACK) {
                        return false;
                    }
                    stack[top] = step < FACT ? step : facts[step - FACT];
                    top++;
                } else if (step == NOT) {
                    if (top < 1) {
                        return false;
                    }
                    stack[top - 1] = 1 - stack[top - 1];
                } else {
                    if (top < 2) {
                        return false;
                    }
                    stack[top - 2] = join(step, stack[top - 2], stack[top - 1]);
                    top--;
                }
            }
            return top == 0 || stack[top - 1] == 1;
        }

        int join(int step, int left, int right) {
            switch (step) {
                case AND:
                    return left & right;
                case OR:
                    return left | right;
                case LESS:
                    return left < right ? 1 : 0;
                case MORE:
                    return left > right ? 1 : 0;
                default:
                    return left + right;
            }
        }
    }

    /** The marks of all words by one who leaves out a set of letters. */
    private static final class Hand {
        final int[] marks = new int[MOST_WORDS];
        final int[] strokes = new int[MOST_WORDS];
        final int[] lengths = new int[MOST_WORDS];
        final int[] often = new int[MOST_WORDS];
        int words;

        void take(State state, int left) {
            words = state.words;
            for (int word = 0; word < words; word++) {
                lengths[word] = state.lengths[word];
                often[word] = state.often[word];
                int mark = 0;
                int many = 0;
                for (int place = 0; place < lengths[word]; place++) {
                    int letter = state.letters[word * LONGEST_WORD + place];
                    if ((left >> letter & 1) == 0) {
                        // Four bits a letter, none of them 0, so that marks are alike just where their numbers are.
                        mark = mark << 4 | letter + 1;
                        many++;
                    }
                }
                marks[word] = mark;
                strokes[word] = many;
            }
        }

        int alikeTo(int word) {
            int bits = 0;
            for (int other = 0; other < words; other++) {
                if (marks[other] == marks[word]) {
                    bits |= 1 << other;
                }
            }
            return bits;
        }

        int readAs(int word) {
            int best = NONE;
            for (int other = 0; other < words; other++) {
                if (marks[other] == marks[word] && (best == NONE || often[other] > often[best])) {
                    best = other;
                }
            }
            return best;
        }

        boolean allDiffer() {
            for (int word = 0; word < words; word++) {
                if (alikeTo(word) != 1 << word) {
                    return false;
                }
            }
            return true;
        }

        int clean() {
            int bits = 0;
            for (int word = 0; word < words; word++) {
                if (strokes[word] == 0) {
                    bits |= 1 << word;
                }
            }
            return bits;
        }

        int lost() {
            int together = 0;
            for (int word = 0; word < words; word++) {
                if (readAs(word) != word) {
                    together += often[word];
                }
            }
            return together;
        }

        int saved() {
            int together = 0;
            for (int word = 0; word < words; word++) {
                together += (lengths[word] - strokes[word]) * often[word];
            }
            return together;
        }
    }

    /** Lets minutes pass in a state. */
    private static final class Clock {
        final Hand hand;
        final int[] facts = new int[Law.FACTS];

        Clock(Hand hand) {
            this.hand = hand;
        }

        /** How many words were said in so many minutes. */
        int pass(State state, int minutes, boolean drawing) {
            int said = 0;
            for (int k = 0; k < minutes; k++) {
                if (state.said < state.spoken) {
                    sayNext(state, drawing);
                    said++;
                } else {
                    letRest(state);
                }
                state.minute = Math.min(state.minute + 1, LAST_MINUTE);
            }
            return said;
        }

        void sayNext(State state, boolean drawing) {
            int word = state.speech[state.said];
            for (int writer = 0; writer < state.writers; writer++) {
                observe(state, writer, word);
                int outcome = MISSED;
                if (isKeepingUp(state)) {
                    boolean slipped = drawing && state.draw() % 100 < slipsOf(state);
                    outcome = slipped ? SLIPPED : WRITTEN;
                    int tired = state.tired[writer] + facts[Law.STROKES] + lawOf(state, Law.TIRE);
                    state.tired[writer] = Math.min(tired, MOST_TIRED);
                } else {
                    restOne(state, writer);
                }
                state.pages[writer * LONGEST_SPEECH + state.said] = outcome;
                state.log.add(state.minute, writer, word, outcome);
            }
            state.said++;
        }

        void letRest(State state) {
            for (int writer = 0; writer < state.writers; writer++) {
                observe(state, writer, MOST_WORDS);
                restOne(state, writer);
            }
        }

        void restOne(State state, int writer) {
            state.tired[writer] = Math.max(state.tired[writer] - 2 - lawOf(state, Law.REST), 0);
        }

        /** Takes down all that the law may ask of a writer and a word; MOST_WORDS is a word of nothing. */
        void observe(State state, int writer, int word) {
            facts[Law.WRITER] = writer;
            facts[Law.WORD] = word;
            facts[Law.STROKES] = 0;
            facts[Law.LENGTH] = 0;
            facts[Law.SPEED] = state.speed[writer];
            facts[Law.SKILL] = state.skill[writer];
            facts[Law.TIRED] = state.tired[writer];
            facts[Law.KEPT] = 0;
            facts[Law.SURE] = 0;
            if (word < state.words) {
                hand.take(state, state.leaves[writer]);
                facts[Law.STROKES] = hand.strokes[word];
                facts[Law.LENGTH] = state.lengths[word];
                facts[Law.KEPT] = hand.strokes[word] == state.lengths[word] ? 1 : 0;
                facts[Law.SURE] = hand.alikeTo(word) == 1 << word ? 1 : 0;
            }
        }

        boolean isKeepingUp(State state) {
            return facts[Law.STROKES] <= facts[Law.SPEED] * state.tempo - facts[Law.TIRED] / 10;
        }

        int slipsOf(State state) {
            int slips = state.slip + lawOf(state, Law.SLIP) - 5 * facts[Law.SKILL];
            return Math.max(0, Math.min(slips, MOST_SLIP));
        }

        int lawOf(State state, int kind) {
            return state.law == null ? 0 : state.law.sumOf(kind, facts);
        }
    }

    /** Words against words. */
    private static final class Lexicon {
        static final int LONGEST_CODE = MOST_WORDS - 1;
        static final int ROOM = 1 << LONGEST_CODE;
        static final int ROOMS = ROOM + 1;
        static final int FAR = 1000000;
        final State state;
        final int[] above = new int[LONGEST_WORD + 1];
        final int[] below = new int[LONGEST_WORD + 1];
        // The least cost of the words from one on within so much room, word by word.
        final int[] costs = new int[(MOST_WORDS + 1) * ROOMS];

        Lexicon(State state) {
            this.state = state;
        }

        int changeOf(int word, int other) {
            int many = state.lengths[other];
            for (int k = 0; k <= many; k++) {
                above[k] = k;
            }
            for (int place = 0; place < state.lengths[word]; place++) {
                below[0] = place + 1;
                for (int k = 0; k < many; k++) {
                    int same = state.letterAt(word, place) == state.letterAt(other, k) ? 0 : 1;
                    below[k + 1] = Math.min(above[k] + same, Math.min(above[k + 1], below[k]) + 1);
                }
                System.arraycopy(below, 0, above, 0, above.length);
            }
            return above[many];
        }

        int closestTo(int word) {
            int best = NONE;
            int least = FAR;
            for (int other = 0; other < state.words; other++) {
                int change = other == word ? FAR : changeOf(word, other);
                if (change < least) {
                    best = other;
                    least = change;
                }
            }
            return best;
        }

        int stepsBetween(int word, int other) {
            int reached = 1 << word;
            for (int steps = 0; steps < MOST_WORDS; steps++) {
                if ((reached >> other & 1) == 1) {
                    return steps;
                }
                reached |= neighboursOf(reached);
            }
            return NONE;
        }

        int neighboursOf(int reached) {
            int bits = 0;
            for (int word = 0; word < state.words; word++) {
                for (int other = 0; other < state.words; other++) {
                    boolean isNew = (reached >> word & 1) == 1 && (reached >> other & 1) == 0;
                    if (isNew && changeOf(word, other) <= 1) {
                        bits |= 1 << other;
                    }
                }
            }
            return bits;
        }

        int longestEcho() {
            for (int many = state.spoken / 2; many > 0; many--) {
                for (int first = 0; first + 2 * many <= state.spoken; first++) {
                    for (int second = first + many; second + many <= state.spoken; second++) {
                        if (isEcho(first, second, many)) {
                            return many;
                        }
                    }
                }
            }
            return 0;
        }

        boolean isEcho(int first, int second, int many) {
            for (int k = 0; k < many; k++) {
                if (state.speech[first + k] != state.speech[second + k]) {
                    return false;
                }
            }
            return true;
        }

        int codesTogether() {
            if (state.words < 2) {
                return 0;
            }
            findCosts();
            return costs[ROOM];
        }

        int codeLength(int word) {
            if (state.words < 2) {
                return 0;
            }
            findCosts();
            int room = ROOM;
            int length = 0;
            for (int k = 0; k <= word; k++) {
                length = shortestAt(k, room);
                room -= ROOM >> length;
                if (room < 0) {
                    return NONE;
                }
            }
            return length;
        }

        /**
         * A row of so many strokes takes its part of all rows of seven strokes; rows can be told so that none
         * begins another one just where these parts are not more than all.
         */
        void findCosts() {
            for (int room = 0; room <= ROOM; room++) {
                costs[state.words * ROOMS + room] = 0;
            }
            for (int word = state.words - 1; word >= 0; word--) {
                for (int room = 0; room <= ROOM; room++) {
                    int least = FAR;
                    for (int length = 1; length <= LONGEST_CODE; length++) {
                        least = Math.min(least, costAt(word, room, length));
                    }
                    costs[word * ROOMS + room] = least;
                }
            }
        }

        int costAt(int word, int room, int length) {
            int rest = room - (ROOM >> length);
            return rest < 0 ? FAR : state.often[word] * length + costs[(word + 1) * ROOMS + rest];
        }

        int shortestAt(int word, int room) {
            for (int length = 1; length < LONGEST_CODE; length++) {
                if (costAt(word, room, length) == costs[word * ROOMS + room]) {
                    return length;
                }
            }
            return LONGEST_CODE;
        }

        int countTwins() {
            int pairs = 0;
            for (int word = 0; word < state.words; word++) {
                for (int other = word + 1; other < state.words; other++) {
                    if (lettersOf(word) == lettersOf(other)) {
                        pairs++;
                    }
                }
            }
            return pairs;
        }

        /** How often each letter is in a word: four bits a letter, of which six never need more. */
        int lettersOf(int word) {
            int counts = 0;
            for (int place = 0; place < state.lengths[word]; place++) {
                counts += 1 << 4 * state.letters[word * LONGEST_WORD + place];
            }
            return counts;
        }

        int usersOf(int letter) {
            int bits = 0;
            for (int word = 0; word < state.words; word++) {
                for (int place = 0; place < state.lengths[word]; place++) {
                    if (state.letterAt(word, place) == letter) {
                        bits |= 1 << word;
                    }
                }
            }
            return bits;
        }
    }

    /** Rows of two bytes that the tape tells, and what fits them. */
    private static final class Clues {
        static final int MOST_BYTES = 40;
        final Tape tape;
        final State state;
        final int[] sets = new int[LETTER_SETS];
        final int[] parts = new int[LETTERS + 1];
        int found;
        int rows;

        Clues(Tape tape, State state) {
            this.tape = tape;
            this.state = state;
        }

        boolean takeHeard() {
            return takeRows(LONGEST_WORD, LETTERS);
        }

        boolean takeHand() {
            return takeRows(state.words, LONGEST_WORD + 1);
        }

        /** Uses the tape up: whether it is rows, the numbers of each below these bounds. */
        boolean takeRows(int firsts, int seconds) {
            int length = tape.length;
            tape.length = 0;
            rows = length / 2;
            if (length > MOST_BYTES || length % 2 != 0) {
                return false;
            }
            for (int row = 0; row < rows; row++) {
                if (firstOf(row) >= firsts || secondOf(row) >= seconds) {
                    return false;
                }
            }
            return true;
        }

        int firstOf(int row) {
            return tape.bytes[2 * row];
        }

        int secondOf(int row) {
            return tape.bytes[2 * row + 1];
        }

        int wrongRows(int word) {
            int wrong = 0;
            for (int row = 0; row < rows; row++) {
                if (state.letterAt(word, firstOf(row)) != secondOf(row)) {
                    wrong++;
                }
            }
            return wrong;
        }

        int fittingWords() {
            int bits = 0;
            for (int word = 0; word < state.words; word++) {
                if (wrongRows(word) <= 1) {
                    bits |= 1 << word;
                }
            }
            return bits;
        }

        int likeliest() {
            int best = NONE;
            int fewest = 2;
            for (int word = 0; word < state.words; word++) {
                int wrong = wrongRows(word);
                boolean oftener = best != NONE && wrong == fewest && state.often[word] > state.often[best];
                if (wrong < fewest || oftener) {
                    best = word;
                    fewest = wrong;
                }
            }
            return best;
        }

        int placeToLook() {
            int fitting = fittingWords();
            if (Integer.bitCount(fitting) < 2) {
                return NONE;
            }
            int best = NONE;
            int least = MOST_WORDS + 1;
            for (int place = 0; place < LONGEST_WORD; place++) {
                int greatest = greatestPartAt(place, fitting);
                if (greatest < least) {
                    best = place;
                    least = greatest;
                }
            }
            return best;
        }

        int greatestPartAt(int place, int fitting) {
            Arrays.fill(parts, 0);
            int greatest = 0;
            for (int word = 0; word < state.words; word++) {
                if ((fitting >> word & 1) == 1) {
                    // Behind a word's end stands NONE, which is -1 and has the first part.
                    int part = state.letterAt(word, place) + 1;
                    parts[part]++;
                    greatest = Math.max(greatest, parts[part]);
                }
            }
            return greatest;
        }

        boolean fitsSet(int left) {
            for (int row = 0; row < rows; row++) {
                if (state.strokesOf(firstOf(row), left) != secondOf(row)) {
                    return false;
                }
            }
            return true;
        }

        /** Finds the sets of letters that fit: how many. */
        int findSets() {
            found = 0;
            for (int set = 0; set < LETTER_SETS; set++) {
                if (fitsSet(set)) {
                    sets[found] = set;
                    found++;
                }
            }
            return found;
        }

        int leastSet() {
            return found > 0 ? sets[0] : NONE;
        }

        int wordToAsk() {
            if (found < 2) {
                return NONE;
            }
            int best = NONE;
            int least = LETTER_SETS + 1;
            for (int word = 0; word < state.words; word++) {
                int greatest = greatestPartOf(word);
                if (greatest < least) {
                    best = word;
                    least = greatest;
                }
            }
            return best;
        }

        int greatestPartOf(int word) {
            Arrays.fill(parts, 0);
            int greatest = 0;
            for (int k = 0; k < found; k++) {
                int part = state.strokesOf(word, sets[k]);
                parts[part]++;
                greatest = Math.max(greatest, parts[part]);
            }
            return greatest;
        }

        int fittingWriters() {
            int bits = 0;
            for (int writer = 0; writer < state.writers; writer++) {
                if (fitsSet(state.leaves[writer])) {
                    bits |= 1 << writer;
                }
            }
            return bits;
        }
    }

    /** Writers: their times, their pages, and one against another. */
    private static final class Scores {
        final State state;
        final Hand hand;
        final int[] shares = new int[MOST_WRITERS];
        final int[] together = new int[1 << MOST_WRITERS];
        final int[] partners = new int[MOST_WRITERS];
        int done;

        Scores(State state, Hand hand) {
            this.state = state;
            this.hand = hand;
        }

        int doneOf(int writer) {
            lagOf(writer, state.tempo);
            return done;
        }

        int lagOf(int writer, int tempo) {
            hand.take(state, state.leaves[writer]);
            int speed = Math.max(1, state.speed[writer]);
            int lag = 0;
            done = 0;
            for (int k = 0; k < state.spoken; k++) {
                int begin = Math.max(done, k * tempo);
                lag = Math.max(lag, begin - k * tempo);
                done = begin + (hand.strokes[state.speech[k]] + speed - 1) / speed;
            }
            return lag;
        }

        int edgeOf(int writer) {
            for (int tempo = 1; tempo <= MOST_TEMPO; tempo++) {
                if (lagOf(writer, tempo) == 0) {
                    return tempo;
                }
            }
            return NONE;
        }

        int runOf(int writer) {
            int longest = 0;
            int run = 0;
            for (int k = 0; k < state.said; k++) {
                run = state.onPage(writer, k) == WRITTEN ? run + 1 : 0;
                longest = Math.max(longest, run);
            }
            return longest;
        }

        int gapsOf(int writer) {
            return state.said - state.onPageOf(writer, WRITTEN);
        }

        int trueOf(int writer) {
            hand.take(state, state.leaves[writer]);
            int many = 0;
            for (int k = 0; k < state.said; k++) {
                int word = state.speech[k];
                if (state.onPage(writer, k) == WRITTEN && hand.readAs(word) == word) {
                    many++;
                }
            }
            return many;
        }

        int shareOf(int writer) {
            int all = state.onAllPages(WRITTEN);
            return all == 0 ? 0 : state.onPageOf(writer, WRITTEN) * 100 / all;
        }

        int pagesOf(int writer, int pages) {
            Arrays.fill(shares, 0);
            for (int k = 0; k < pages; k++) {
                int next = 0;
                for (int other = 1; other < state.writers; other++) {
                    if (claimOf(other) > claimOf(next)) {
                        next = other;
                    }
                }
                shares[next]++;
            }
            return shares[writer];
        }

        int claimOf(int writer) {
            return state.speed[writer] / (shares[writer] + 1);
        }

        /** Finds the most that each set of writers, as bits, can have by pairs: that of all. */
        int findPairs() {
            int sets = 1 << state.writers;
            for (int set = 0; set < sets; set++) {
                together[set] = 0;
                int first = firstIn(set);
                if (first != NONE) {
                    together[set] = together[set & ~(1 << first)];
                    for (int other = first + 1; other < state.writers; other++) {
                        together[set] = Math.max(together[set], withPair(set, first, other));
                    }
                }
            }
            return together[sets - 1];
        }

        int firstIn(int set) {
            for (int writer = 0; writer < state.writers; writer++) {
                if ((set >> writer & 1) == 1) {
                    return writer;
                }
            }
            return NONE;
        }

        int withPair(int set, int first, int other) {
            if ((set >> other & 1) == 0) {
                return NONE;
            }
            int differ = Integer.bitCount(state.leaves[first] ^ state.leaves[other]);
            return differ + together[set & ~(1 << first) & ~(1 << other)];
        }

        /** With whom a writer is in the first of the best ways; findPairs comes ahead of it. */
        int partnerOf(int writer) {
            Arrays.fill(partners, NONE);
            int set = (1 << state.writers) - 1;
            for (int k = 0; k < state.writers; k++) {
                if ((set >> k & 1) == 1) {
                    int partner = partnerIn(set, k);
                    set &= ~(1 << k);
                    if (partner != NONE) {
                        partners[k] = partner;
                        partners[partner] = k;
                        set &= ~(1 << partner);
                    }
                }
            }
            return partners[writer];
        }

        int partnerIn(int set, int first) {
            if (together[set] == together[set & ~(1 << first)]) {
                return NONE;
            }
            for (int other = first + 1; other < state.writers; other++) {
                if (together[set] == withPair(set, first, other)) {
                    return other;
                }
            }
            return NONE;
        }

        /** Choices (2 times the writer's and the speaker's) that neither would leave alone, as bits. */
        int steadyChoices(int writer) {
            int bits = 0;
            for (int choice = 0; choice < 4; choice++) {
                boolean writerStays = gainOf(writer, choice) >= gainOf(writer, choice ^ 2);
                boolean speakerStays = speakerGain(writer, choice) >= speakerGain(writer, choice ^ 1);
                if (writerStays && speakerStays) {
                    bits |= 1 << choice;
                }
            }
            return bits;
        }

        int gainOf(int writer, int choice) {
            switch (choice) {
                case 0:
                    return state.skill[writer];
                case 1:
                    return -(state.tired[writer] / 10);
                case 2:
                    return 1;
                default:
                    return 4;
            }
        }

        int speakerGain(int writer, int choice) {
            switch (choice) {
                case 0:
                    return 2;
                case 1:
                    return 1;
                case 2:
                    return -state.speed[writer];
                default:
                    return 3;
            }
        }
    }
}
