import java.util.NoSuchElementException;

/** Each promise of the document in numbers worked out by hand: ordinary inputs, the edges it names, wrong inputs. */
public final class PromisesTest {
    private static final Check CHECK = new Check("PromisesTest");
    private static final Class<IndexOutOfBoundsException> NO_SUCH = IndexOutOfBoundsException.class;
    private static final Class<IllegalArgumentException> NONE_SUCH = IllegalArgumentException.class;
    private static final Class<NoSuchElementException> NO_WHAT = NoSuchElementException.class;

    /** Words abc, ab, cab, b; a writer who leaves a, and one who leaves nothing and is slow and tired. */
    private static final String SMALL = "word abc often 10;word ab often 5;word cab often 3;word b often 1;"
        + "writer speed 2 leaves a;writer speed 1 skill 2 tired 20;speech 0 1 2 0 1;tempo 2;slip 0";

    public static void main(String[] args) {
        newObject();
        tape();
        eveningTexts();
        eveningFaults();
        lawTexts();
        lawFaults();
        wordsAndLetters();
        writersAndMarks();
        keepingUpAndSlips();
        minutesPass();
        acts();
        leavingOut();
        codes();
        heardRows();
        handRows();
        times();
        pagesRead();
        changes();
        sharing();
        choicesAndOdds();
        greatest();
        minutesAhead();
        logRows();
        undoing();
        imageKept();
        CHECK.finish();
    }

    private static void is(String what, long want, long got) {
        CHECK.is(what, want, got);
    }

    private static void is(String what, boolean want, boolean got) {
        CHECK.is(what, want, got);
    }

    private static void newObject() {
        PencilUp x = new PencilUp();
        int[] wants = {0, 0, 0, -1, 0, 0, 3, 0, 0, 0, 0, 0, -1};
        for (int what = 0; what < wants.length; what++) {
            is("1: count of a new object " + what, wants[what], x.count(what));
        }
        is("1: count(-1)", -1, x.count(-1));
        is("1: NONE", -1, PencilUp.NONE);
        is("54: seed at first", 1, x.seed(77));
        is("54: seed told", 77, x.seed(Integer.MIN_VALUE));
        is("54: seed of any int", Integer.MIN_VALUE, x.seed(0));
    }

    private static void tape() {
        PencilUp x = new PencilUp();
        is("2: feed", 20, x.feed(0, 0, 0, 0, 0));
        for (int k = 2; k <= 20; k++) {
            is("2: feed", 20 * k, x.feed(0, 0, 0, 0, 0));
        }
        is("2: feed beyond 400", -1, x.feed(0, 0, 0, 0, 0));
        is("3: end beyond", false, x.end(401));
        is("3: end below 0", false, x.end(-1));
        is("3: end of all", true, x.end(400));
        is("3: end", true, x.end(381));
        is("2: feed beyond 400 by one", -1, x.feed(0, 0, 0, 0, 0));
        is("3: end", true, x.end(380));
        is("2: feed to 400", 400, x.feed(0, 0, 0, 0, 0));
        is("3: end at 0", true, x.end(0));
        is("3: end at 1 of none", false, x.end(1));
        // The highest byte of each number comes first: "tempo 9;slip 5;mi" and so on.
        is("2: feed", 20, x.feed(0x74656d70, 0x6f20393b, 0x736c6970, 0x20353b6d, 0x696e7574));
        is("2: feed", 40, x.feed(0x65203700, 0, 0, 0, 0));
        is("3: end", true, x.end(23));
        is("4: evening", 1, x.evening());
        is("2: bytes in their order", 9, x.count(6));
        is("2: bytes in their order", 5, x.count(7));
        is("2: bytes in their order", 7, x.count(8));
        is("4: the tape is used up", false, x.end(1));
    }

    private static void eveningTexts() {
        PencilUp x = new PencilUp();
        Check.tell(x, "   ");
        is("4: blanks alone", 1, x.evening());
        Check.tell(x, "  word h often 99 ;writer speed9skill 9tired 99leaves hgfedcba;speech 0 00 000;minute 999  ");
        is("4: blanks between all, or none", 2, x.evening());
        is("4: speech", 3, x.count(4));
        is("4: minute", 999, x.count(8));
        is("4: leaves", 255, x.writer(0, 0));
        for (int k = 3; k <= 12; k++) {
            Check.tell(x, k == 5 ? "tempo 7" : "");
            is("4: texts", k, x.evening());
        }
        is("4: tempo", 7, x.count(6));
        Check.tell(x, "tempo 1");
        CHECK.fails("4: a 13th text", UnsupportedOperationException.class, () -> x.evening());
        is("4: nothing stays of a 13th text", 7, x.count(6));
        is("4: the tape is used up by it", false, x.end(1));
        Check.tell(x, "tempo 0");
        CHECK.fails("4: a 13th text that is wrong", NONE_SUCH, () -> x.evening());
        is("6: its fault", 6, x.fault());
        is("58: texts", 12, x.count(2));
        is("4: the least numbers", 0, Check.evening("minute 7;minute 0;slip 7;slip 0;writer speed 1 skill 0 tired 0").count(8));
        PencilUp y = Check.evening("tempo 1;".repeat(13) + "tempo 2");
        is("4: 14 lines", 2, y.count(6));
    }

    private static void wrongEvening(PencilUp x, String text, int at) {
        int[] before = new int[12];
        for (int k = 0; k < 12; k++) {
            before[k] = x.count(k);
        }
        Check.tell(x, text);
        CHECK.fails("4: " + text, NONE_SUCH, () -> x.evening());
        is("6: fault of " + text, at, x.fault());
        is("4: the tape is used up by " + text, false, x.end(1));
        for (int k = 0; k < 12; k++) {
            is("4: of a wrong text nothing stays: " + text, before[k], x.count(k));
        }
    }

    private static void eveningFaults() {
        PencilUp x = Check.evening("word ab often 3;writer speed 2;speech 0 0");
        is("6: none", -1, x.fault());
        x.tempo(4);
        wrongEvening(x, "word a often 5;word b often 5;writer speed 3;speech 2 1 3", 56);
        wrongEvening(x, "tempo 5;slip 5;minute 5;nothing", 24);
        wrongEvening(x, ";", 0);
        wrongEvening(x, " ; tempo 2", 1);
        wrongEvening(x, "tempo 2;", 8);
        wrongEvening(x, "tempo 2;   ", 11);
        wrongEvening(x, "tempo 2;;tempo 3", 8);
        wrongEvening(x, "tempo 2 tempo 3", 8);
        wrongEvening(x, "tempo 2, tempo 3", 7);
        wrongEvening(x, "tempo", 5);
        wrongEvening(x, "tempo 0", 6);
        wrongEvening(x, "tempo 10", 6);
        wrongEvening(x, "tempo 0009", 6);
        wrongEvening(x, "tempo -1", 6);
        wrongEvening(x, "tempo3s", 6);
        wrongEvening(x, "Tempo 3", 0);
        wrongEvening(x, "tempos 3", 0);
        wrongEvening(x, "\ttempo 3", 0);
        wrongEvening(x, "slip 101", 5);
        wrongEvening(x, "minute 1000", 7);
        wrongEvening(x, "word 7", 5);
        wrongEvening(x, "word abcdefa often 1", 5);
        wrongEvening(x, "word abi often 1", 5);
        wrongEvening(x, "word ab oft", 8);
        wrongEvening(x, "word ab often", 13);
        wrongEvening(x, "word ab often 0", 14);
        wrongEvening(x, "word ab often 100", 14);
        wrongEvening(x, "writer", 6);
        wrongEvening(x, "writer 4", 7);
        wrongEvening(x, "writer speed", 12);
        wrongEvening(x, "writer speed 1 skill", 20);
        wrongEvening(x, "writer speed 1 tired", 20);
        wrongEvening(x, "writer speed 0", 13);
        wrongEvening(x, "writer speed 10", 13);
        wrongEvening(x, "writer speed 1 skill 10", 21);
        wrongEvening(x, "writer speed 1 tired 100", 21);
        wrongEvening(x, "writer speed 1 tired 5 skill 1", 23);
        wrongEvening(x, "writer speed 1 leaves a tired 5", 24);
        wrongEvening(x, "writer speed 1 leaves aba", 22);
        wrongEvening(x, "writer speed 1 leaves ij", 22);
        wrongEvening(x, "writer speed 1 leaves ", 22);
        wrongEvening(x, "speech", 6);
        wrongEvening(x, "speech 1", 7);
        wrongEvening(x, "speech 0 0 0 0 0 0 0", 19);
        wrongEvening(x, "speech 0 0;speech 0 x", 20);
        wrongEvening(x, "tempo 1;".repeat(14) + "tempo 2", 112);
        wrongEvening(x, "tempo 1;".repeat(14), 112);
        wrongEvening(x, "word c often 1;".repeat(8), 105);
        wrongEvening(x, "writer speed 1;".repeat(5), 60);
        wrongEvening(x, "speech 0 0 0 0 0 0;".repeat(3) + "speech 0", 64);
        is("4: wrong texts leave acts to be undone", 1, x.count(11));
        Check.tell(x, "speech 0 0 0 0 0 0;".repeat(3).substring(0, 56));
        is("4: a speech of 20", 2, x.evening());
        is("4: a speech of 20", 20, x.count(4));
        is("6: fault of a right text", -1, x.fault());
        wrongEvening(x, "speech 0", 7);
        wrongEvening(x, "speech", 6);
        wrongEvening(x, "speech;", 6);
        PencilUp y = new PencilUp();
        Check.tell(y, "speech 0 0 0 0 0 0;".repeat(3));
        CHECK.fails("4: no word by then", NONE_SUCH, () -> y.evening());
        is("6: fault", 7, y.fault());
    }

    private static void lawTexts() {
        PencilUp x = Check.evening("word ab often 3;word c often 1;writer speed 2 tired 7 leaves c;writer speed 5 skill 1");
        String[] holds = {"kept", "sure", "not not kept", "strokes<3", "strokes > 1", "1+1 < 3", "letters+letters>3",
            "kept or sure and 1>2", "(kept)", "not (kept and 2<1)", "word<1 and writer<1", "tired+speed>8", "8<tired+speed",
            "skill<1", "((((((kept))))))", "not not not not not not kept", "(not(not kept))", "999>998", "007<8",
            "1<0 or 1<0 or kept", "not 1<0 and kept"};
        for (String condition : holds) {
            Check.tell(x, "slip 9 if " + condition + ";slip 20 if not (" + condition.replace("((((((kept))))))", "kept")
                .replace("not not not not not not kept", "kept") + ")");
            is("5: " + condition, 2, x.law());
            is("5: holds " + condition, 9, x.slips(0, 0));
        }
        Check.tell(x, "slip 9 if (kept or sure) and 1>2");
        is("5: brackets", 1, x.law());
        is("5: brackets", 0, x.slips(0, 0));
        Check.tell(x, "slip 1 if writer<1;slip 2 if writer>0;slip 4 if word>0;slip 8 if strokes<1;slip 16 if kept;slip 32 if not sure");
        is("5: law", 6, x.law());
        is("17: slips of a writer who leaves the word out", 1 + 4 + 8, x.slips(0, 1));
        is("17: slips of one of skill", 2 + 4 + 16 - 5, x.slips(1, 1));
        Check.tell(x, "slip 1;".repeat(11) + "slip 99");
        is("5: twelve lines", 12, x.law());
        is("5: slips at most 100", 100, x.slips(0, 0));
        is("5: and skill", 100, x.slips(1, 0));
        Check.tell(x, "   ");
        is("5: blanks are no line", 0, x.law());
        is("58: lines", 0, x.count(3));
        is("17: slips without lines", 0, x.slips(1, 0));
    }

    private static void wrongLaw(PencilUp x, String text, int at) {
        Check.tell(x, text);
        CHECK.fails("5: " + text, NONE_SUCH, () -> x.law());
        is("6: fault of " + text, at, x.fault());
        is("5: the law before stays", 1, x.count(3));
        is("5: the law before stays", 33, x.slips(0, 0));
        is("5: acts stay", 1, x.count(11));
        is("5: the tape is used up", false, x.end(1));
    }

    private static void lawFaults() {
        PencilUp x = Check.evening("word a often 1;writer speed 1", "slip 33");
        x.learn(0);
        x.undo();
        x.rest(0);
        wrongLaw(x, ";", 0);
        wrongLaw(x, "slip 1;", 7);
        wrongLaw(x, "slip", 4);
        wrongLaw(x, "slip 100", 5);
        wrongLaw(x, "slip 1 unless kept", 7);
        wrongLaw(x, "slip 1 if", 9);
        wrongLaw(x, "slip 1 if  ", 11);
        wrongLaw(x, "slip 1 if;", 9);
        wrongLaw(x, "slip 1 if 5", 11);
        wrongLaw(x, "slip 1 if 5 and kept", 12);
        wrongLaw(x, "slip 1 if 5 < kept", 14);
        wrongLaw(x, "slip 1 if 1<2<3", 13);
        wrongLaw(x, "slip 1 if 1<2+", 14);
        wrongLaw(x, "slip 1 if 1+<2", 12);
        wrongLaw(x, "slip 1 if 1000<2", 10);
        wrongLaw(x, "slip 1 if 1=2", 11);
        wrongLaw(x, "slip 1 if kept kept", 15);
        wrongLaw(x, "slip 1 if kept and", 18);
        wrongLaw(x, "slip 1 if kept or or kept", 18);
        wrongLaw(x, "slip 1 if (kept", 15);
        wrongLaw(x, "slip 1 if (kept;slip 2", 15);
        wrongLaw(x, "slip 1 if kept)", 14);
        wrongLaw(x, "slip 1 if ()", 11);
        wrongLaw(x, "slip 1 if (1)<2", 12);
        wrongLaw(x, "slip 1 if not", 13);
        wrongLaw(x, "slip 1 if minute<2", 10);
        wrongLaw(x, "slip 1 if (((((((kept)))))))", 16);
        wrongLaw(x, "slip 1 if not(not(not(not kept)))", 22);
        wrongLaw(x, "slip 1 if kept and (((not(not(not kept)))))", 29);
        wrongLaw(x, "rest 1;".repeat(12) + "rest 1", 84);
        wrongLaw(x, "rest 1;".repeat(12), 84);
        wrongLaw(x, "rest 1;".repeat(12) + "nothing", 84);
        wrongLaw(x, "tired 1", 0);
    }

    private static void wordsAndLetters() {
        PencilUp x = Check.evening(SMALL);
        is("7: letters", 3, x.word(2, 0));
        is("7: often", 3, x.word(2, 1));
        is("7: closest of abc", 1, x.word(0, 3));
        is("7: closest, of several the least", 1, x.word(2, 3));
        is("7: closest of one alone", -1, Check.evening("word a often 1").word(0, 3));
        is("7: a word alike is another one", 1, Check.evening("word a often 1;word a often 1").word(0, 3));
        for (int wrong : new int[] {-1, 4, Integer.MAX_VALUE, Integer.MIN_VALUE}) {
            CHECK.fails("7: what", NO_WHAT, () -> x.word(0, wrong));
            CHECK.fails("7: word", NO_SUCH, () -> x.word(wrong, 0));
            CHECK.fails("7: word first", NO_SUCH, () -> x.word(wrong, 9));
            CHECK.fails("8: word", NO_SUCH, () -> x.letter(wrong, 0));
            is("8: letter", -1, x.letter(0, wrong));
            is("10: speech", -1, x.speech(wrong == 4 ? 5 : wrong));
        }
        is("8: letter", 2, x.letter(2, 0));
        is("8: letter", 1, x.letter(2, 2));
        is("8: letter behind", -1, x.letter(2, 3));
        is("10: speech", 2, x.speech(2));
        is("47: uses", 7, x.uses(0));
        is("47: uses of c", 5, x.uses(2));
        is("47: uses of none", 0, x.uses(7));
        CHECK.fails("47: letter", NO_SUCH, () -> x.uses(-1));
        CHECK.fails("47: letter", NO_SUCH, () -> x.uses(8));
        is("48: silent", 0xf8, x.silent());
        is("46: twins", 1, x.twins());
        is("46: each as often", 0, Check.evening("word aab often 1;word abb often 1;word ab often 1").twins());
        is("46: many of one letter are none of another", 0,
            Check.evening("word hhhh often 1;word b often 1;word aa often 1;word hhhhhh often 1;word ba often 1;word hhhha often 1").twins());
        is("46: three of them", 3, Check.evening("word hhhhhg often 1;word hghhhh often 1;word ghhhhh often 1").twins());
    }

    private static void writersAndMarks() {
        PencilUp x = Check.evening(SMALL);
        is("9: leaves", 1, x.writer(0, 0));
        is("9: speed", 1, x.writer(1, 1));
        is("9: skill", 2, x.writer(1, 2));
        is("9: tired", 20, x.writer(1, 3));
        is("9: clean", 0, x.writer(0, 4));
        is("9: lost: b is read as ab", 1, x.writer(0, 5));
        is("9: saves", 18, x.writer(0, 6));
        x.leave(0, 1, true);
        is("9: clean", 10, x.writer(0, 4));
        is("9: lost: cab as abc, b as ab", 4, x.writer(0, 5));
        is("9: saves", 37, x.writer(0, 6));
        is("15: reads", 0, x.reads(0, 2));
        x.often(2, 10);
        is("15: reads, of several the least", 0, x.reads(0, 2));
        x.often(2, 11);
        is("15: reads the oftenest", 2, x.reads(0, 0));
        is("12: strokes", 1, x.strokes(0, 0));
        is("12: no strokes", 0, x.strokes(0, 1));
        is("13: mark", 2, x.mark(0, 2, 0));
        is("13: behind the mark", -1, x.mark(0, 2, 1));
        is("13: ahead of it", -1, x.mark(0, 2, -1));
        is("13: all of it", 1, x.mark(1, 2, 2));
        is("14: alike", 5, x.alike(0, 2));
        is("14: alike of nothing", 10, x.alike(0, 3));
        is("14: sure", 4, x.alike(1, 2));
        for (int wrong : new int[] {-1, 4, Integer.MAX_VALUE, Integer.MIN_VALUE}) {
            CHECK.fails("9: writer", NO_SUCH, () -> x.writer(wrong, 0));
            CHECK.fails("9: writer first", NO_SUCH, () -> x.writer(wrong, 14));
            CHECK.fails("11: writer", NO_SUCH, () -> x.page(wrong, 0));
            CHECK.fails("12: writer", NO_SUCH, () -> x.strokes(wrong, 0));
            CHECK.fails("12: word", NO_SUCH, () -> x.strokes(0, wrong));
            CHECK.fails("13: writer", NO_SUCH, () -> x.mark(wrong, 0, 0));
            CHECK.fails("13: word", NO_SUCH, () -> x.mark(0, wrong, 0));
            CHECK.fails("14: writer", NO_SUCH, () -> x.alike(wrong, 0));
            CHECK.fails("14: word", NO_SUCH, () -> x.alike(0, wrong));
            CHECK.fails("15: writer", NO_SUCH, () -> x.reads(wrong, 0));
            CHECK.fails("15: word", NO_SUCH, () -> x.reads(0, wrong));
            CHECK.fails("16: writer", NO_SUCH, () -> x.keepsUp(wrong, 0) ? 1 : 0);
            CHECK.fails("16: word", NO_SUCH, () -> x.keepsUp(0, wrong) ? 1 : 0);
            CHECK.fails("17: writer", NO_SUCH, () -> x.slips(wrong, 0));
            CHECK.fails("17: word", NO_SUCH, () -> x.slips(0, wrong));
        }
        CHECK.fails("9: what", NO_WHAT, () -> x.writer(0, 14));
        CHECK.fails("9: what", NO_WHAT, () -> x.writer(0, -1));
        CHECK.fails("12: there are two writers", NO_SUCH, () -> x.strokes(2, 0));
    }

    private static void keepingUpAndSlips() {
        PencilUp x = Check.evening("word abcdef often 1;word a often 1;writer speed 2 tired 9;writer speed 2 tired 10;"
            + "writer speed 1 tired 39 leaves a;writer speed 1 tired 30 leaves a;slip 50");
        is("16: strokes are speed times tempo", true, x.keepsUp(0, 0));
        is("16: tired by 10 less", false, x.keepsUp(1, 0));
        is("16: no strokes and nothing left", true, x.keepsUp(2, 1));
        is("16: no strokes", true, x.keepsUp(3, 1));
        x.tempo(2);
        is("16: no strokes, but less than nothing", false, x.keepsUp(2, 1));
        x.learn(0);
        is("17: less 5 times skill", 45, x.slips(0, 0));
        is("17: slip", 50, x.slips(1, 0));
        for (int k = 0; k < 9; k++) {
            x.learn(0);
        }
        is("17: skill 9", 5, x.slips(0, 0));
        Check.tell(x, "slip 44");
        x.evening();
        is("17: at least 0", 0, x.slips(0, 0));
    }

    private static void minutesPass() {
        PencilUp x = Check.evening("word abc often 1;word d often 1;writer speed 1;writer speed 1 tired 10 leaves ab;"
            + "speech 0 1 0;slip 25;minute 500", "tire 2 if strokes>2;rest 4 if word>7;rest 1 if word<1 and not kept");
        x.seed(1);
        // The draws of seed 1 modulo 100 are 38, 58, 13, 15, 51.
        is("18: minutes", 2, x.minutes(2));
        is("11: 38 is no slip", 1, x.page(0, 0));
        is("11: 58 is none", 1, x.page(1, 0));
        is("11: 13 slips", 2, x.page(0, 1));
        is("11: 15 slips", 2, x.page(1, 1));
        is("11: not said yet", -1, x.page(0, 2));
        is("11: ahead of all", -1, x.page(0, -1));
        is("9: tired by 3 and 2, and 1", 6, x.writer(0, 3));
        is("9: tired by 1 and 1", 12, x.writer(1, 3));
        is("58: said", 2, x.count(5));
        is("58: minute", 502, x.count(8));
        x.tempo(1);
        is("18: minutes beyond the speech", 1, x.minutes(3));
        is("11: missed", 0, x.page(0, 2));
        is("9: rests by 2, then by 6 twice", 0, x.writer(0, 3));
        is("11: one stroke is missed when tired", 0, x.page(1, 2));
        is("9: rests by 3, then by 6 twice", 0, x.writer(1, 3));
        is("18: nothing said", 0, x.minutes(60));
        is("58: minute", 565, x.count(8));
        CHECK.fails("18: none", NONE_SUCH, () -> x.minutes(0));
        CHECK.fails("18: too many", NONE_SUCH, () -> x.minutes(61));
        CHECK.fails("18: below", NONE_SUCH, () -> x.minutes(-1));
        Check.tell(x, "writer speed 9");
        x.evening();
        is("11: said ahead of its coming", 0, x.page(2, 0));
        is("9: gaps of one who came late", 3, x.writer(2, 11));
        Check.tell(x, "minute 999");
        x.evening();
        for (int k = 0; k < 149; k++) {
            x.minutes(60);
        }
        is("58: minute", 9939, x.count(8));
        x.minutes(59);
        is("58: minute", 9998, x.count(8));
        x.minutes(2);
        is("18: minute 9999 at most", 9999, x.count(8));
        PencilUp y = Check.evening("word abcdef often 1;writer speed 9 tired 90;speech 0 0 0;tempo 9");
        y.minutes(2);
        is("9: tired 99 at most", 99, y.writer(0, 3));
    }

    private static void acts() {
        PencilUp x = Check.evening("word ab often 3;word c often 1;writer speed 2 skill 8 tired 44;slip 9");
        is("19: speak", 1, x.speak(1));
        for (int k = 2; k <= 20; k++) {
            is("19: speak", k, x.speak(0));
        }
        CHECK.fails("19: a 21st", IllegalStateException.class, () -> x.speak(0));
        CHECK.fails("19: no word, told first", NO_SUCH, () -> x.speak(2));
        CHECK.fails("19: no word", NO_SUCH, () -> x.speak(-1));
        is("20: leave", true, x.leave(0, 7, true));
        is("20: leave", false, x.leave(0, 7, true));
        is("9: leaves", 128, x.writer(0, 0));
        is("20: leave no more", true, x.leave(0, 7, false));
        is("20: leave no more", false, x.leave(0, 7, false));
        is("9: leaves", 0, x.writer(0, 0));
        CHECK.fails("20: writer", NO_SUCH, () -> x.leave(1, 0, true) ? 1 : 0);
        CHECK.fails("20: letter", NO_SUCH, () -> x.leave(0, 8, true) ? 1 : 0);
        CHECK.fails("20: letter", NO_SUCH, () -> x.leave(0, -1, true) ? 1 : 0);
        is("21: learn", 9, x.learn(0));
        is("21: learn at 9", 9, x.learn(0));
        CHECK.fails("21: writer", NO_SUCH, () -> x.learn(1));
        is("22: rest", 44, x.rest(0));
        is("22: rest again", 0, x.rest(0));
        CHECK.fails("22: writer", NO_SUCH, () -> x.rest(-1));
        is("23: often", 3, x.often(0, 99));
        is("23: often", 99, x.often(0, 1));
        CHECK.fails("23: often 0", NONE_SUCH, () -> x.often(0, 0));
        CHECK.fails("23: often 100", NONE_SUCH, () -> x.often(0, 100));
        CHECK.fails("23: word, told first", NO_SUCH, () -> x.often(2, 100));
        is("24: tempo", 3, x.tempo(9));
        is("24: tempo", 9, x.tempo(1));
        CHECK.fails("24: tempo 0", NONE_SUCH, () -> x.tempo(0));
        CHECK.fails("24: tempo 10", NONE_SUCH, () -> x.tempo(10));
        is("25: speed", 2, x.speed(0, 9));
        is("25: speed", 9, x.speed(0, 1));
        CHECK.fails("25: speed 0", NONE_SUCH, () -> x.speed(0, 0));
        CHECK.fails("25: speed 10", NONE_SUCH, () -> x.speed(0, 10));
        CHECK.fails("25: writer, told first", NO_SUCH, () -> x.speed(1, 10));
    }

    private static void leavingOut() {
        PencilUp x = Check.evening(SMALL);
        is("26: keep a and c", 5, x.keep());
        is("26: keep of one word", 0, Check.evening("word a often 1").keep());
        is("26: keep of two alike", -1, Check.evening("word ab often 1;word ab often 2").keep());
        is("26: of several the least", 1, Check.evening("word a often 1;word b often 2").keep());
        is("26: all eight letters may be needed but one", 0x7f,
            Check.evening("word a often 1;word b often 1;word c often 1;word d often 1;word e often 1;word f often 1;word g often 1;word h often 1").keep());
        is("27: leave at no price", 2, x.leaves(0, false));
        is("27: saved so", 19, x.leaves(0, true));
        is("27: leave at 4", 3, x.leaves(4, false));
        is("27: saved so", 37, x.leaves(4, true));
        is("27: all left out", 7, x.leaves(999, false));
        is("27: none", -1, Check.evening("word a often 5;word a often 6").leaves(4, false));
        is("27: none saved", -1, Check.evening("word a often 5;word a often 6").leaves(4, true));
        is("27: all", 1, Check.evening("word a often 5;word a often 6").leaves(5, false));
        is("27: all saved", 11, Check.evening("word a often 5;word a often 6").leaves(5, true));
        is("27: without words", 0, new PencilUp().leaves(0, false));
        CHECK.fails("27: price", NONE_SUCH, () -> x.leaves(-1, false));
        CHECK.fails("27: price", NONE_SUCH, () -> x.leaves(1000, true));
    }

    private static void codes() {
        PencilUp x = Check.evening(SMALL);
        is("28: codes: 10 and 2 times 5 and 3 times 4", 32, x.codes());
        is("28: none", 0, new PencilUp().codes());
        PencilUp one = Check.evening("word a often 7");
        is("28: one", 0, one.codes());
        is("7: length of one", 0, one.word(0, 2));
        PencilUp two = Check.evening("word a often 7;word b often 1");
        is("28: two", 8, two.codes());
        is("7: length of two", 1, two.word(1, 2));
        // 1 1 2 2: two each costs 12, and so do 3 3 2 1 and 3 3 1 2; the first by lengths is 2 2 2 2.
        PencilUp ties = Check.evening("word a often 1;word b often 1;word c often 2;word d often 2");
        is("28: ties", 12, ties.codes());
        for (int k = 0; k < 4; k++) {
            is("7: the first way", 2, ties.word(k, 2));
        }
        // 2 2 1 1: the first by lengths begins with 1.
        PencilUp turned = Check.evening("word a often 2;word b often 2;word c often 1;word d often 1");
        is("7: the first way", 1, turned.word(0, 2));
        is("7: the first way", 2, turned.word(1, 2));
        is("7: the first way", 3, turned.word(2, 2));
        PencilUp deep = Check.evening("word a often 1;word b often 1;word c often 2;word d often 4;word e often 8;word f often 16;word g often 32;word h often 64");
        is("28: deep", 7 + 7 + 12 + 20 + 32 + 48 + 64 + 64, deep.codes());
        is("7: seven strokes", 7, deep.word(0, 2));
        is("7: one stroke", 1, deep.word(7, 2));
        PencilUp flat = Check.evening("word a often 9;word b often 9;word c often 9;word d often 9;word e often 9;word f often 9;word g often 9;word h often 9");
        is("28: flat", 216, flat.codes());
        is("7: three strokes", 3, flat.word(7, 2));
    }

    private static int heard(PencilUp x, int... rows) {
        Check.rows(x, rows);
        return x.heard();
    }

    private static int likely(PencilUp x, int... rows) {
        Check.rows(x, rows);
        return x.likely();
    }

    private static int look(PencilUp x, int... rows) {
        Check.rows(x, rows);
        return x.look();
    }

    private static void heardRows() {
        PencilUp x = Check.evening("word abc often 1;word abd often 9;word ad often 9;word b often 99");
        is("29: nothing told", 15, heard(x));
        is("29: one row may be wrong", 15, heard(x, 5, 7));
        is("29: two rows", 7, heard(x, 0, 0, 1, 1));
        is("29: each row counts as often as it is told", 7, heard(x, 0, 0, 0, 0));
        is("29: three rows", 3, heard(x, 0, 0, 1, 1, 2, 2));
        is("29: none", 0, heard(x, 5, 0, 4, 0));
        is("30: fewest wrong rows", 0, likely(x, 0, 0, 1, 1, 2, 2));
        is("30: then the oftenest, of several the least", 1, likely(x, 0, 0));
        is("30: oftenest of all", 3, likely(x));
        is("30: none", -1, likely(x, 5, 0, 4, 0));
        is("31: look at nothing told", 1, look(x));
        is("31: place 2 parts three into one each", 2, look(x, 0, 0, 1, 1));
        is("31: fewer than two", -1, look(x, 0, 1, 1, 7));
        is("31: none alike parted", 0, look(Check.evening("word a often 1;word a often 1")));
        is("31: one word", -1, look(Check.evening("word a often 1")));
        is("31: behind the end is a part", 1, look(Check.evening("word ab often 1;word a often 1;word ac often 1")));
        int[] twenty = new int[40];
        is("29: forty bytes", 7, heard(x, twenty));
        int[][] wrong = {{6, 0}, {0, 8}, {255, 0}, {0, 255}, {0}, {0, 0, 0}, new int[42]};
        for (int[] rows : wrong) {
            CHECK.fails("29: not that", NONE_SUCH, () -> heard(x, rows));
            CHECK.fails("30: not that", NONE_SUCH, () -> likely(x, rows));
            CHECK.fails("31: not that", NONE_SUCH, () -> look(x, rows));
            is("29: the tape is used up", false, x.end(1));
        }
    }

    private static int hand(PencilUp x, boolean least, int... rows) {
        Check.rows(x, rows);
        return x.hand(least);
    }

    private static int ask(PencilUp x, int... rows) {
        Check.rows(x, rows);
        return x.ask();
    }

    private static int whose(PencilUp x, int... rows) {
        Check.rows(x, rows);
        return x.whose();
    }

    private static void handRows() {
        PencilUp x = Check.evening(SMALL);
        is("32: nothing told", 256, hand(x, false));
        is("32: least of all", 0, hand(x, true));
        is("32: one of three left out", 96, hand(x, false, 0, 2));
        is("32: least", 1, hand(x, true, 0, 2));
        is("32: abc 2, ab 2", 32, hand(x, false, 0, 2, 1, 2));
        is("32: so c is left out", 4, hand(x, true, 0, 2, 1, 2));
        is("32: none", 0, hand(x, false, 0, 3, 3, 0));
        is("32: none is least", -1, hand(x, true, 0, 3, 3, 0));
        is("32: more than it has", 0, hand(x, false, 3, 6));
        is("33: ask of nothing told", 0, ask(x));
        is("33: ask: abc has 2 always, ab 2 or 1", 1, ask(x, 0, 2));
        is("33: none", -1, ask(x, 0, 3, 3, 0));
        PencilUp all = Check.evening("word abcdef often 1;word gh often 1");
        is("32: one set", 1, hand(all, false, 0, 6, 1, 2));
        is("32: one set", 0, hand(all, true, 0, 6, 1, 2));
        is("32: the greatest set", 255, hand(all, true, 0, 0, 1, 0));
        is("33: one set", -1, ask(Check.evening("word abcdef often 1;word gh often 1"), 0, 6, 1, 2));
        is("33: two sets that none parts: the least", 0, ask(Check.evening("word abcdef often 1;word gh often 1"), 0, 6, 1, 1));
        is("33: two sets that one word parts", 2,
            ask(Check.evening("word abcdef often 1;word gh often 1;word gg often 1"), 0, 6, 1, 1));
        is("33: without words", -1, ask(new PencilUp()));
        is("34: whose of nothing told", 3, whose(x));
        is("34: whose", 1, whose(x, 0, 2));
        is("34: whose", 2, whose(x, 0, 3, 2, 3));
        is("34: both", 3, whose(x, 3, 1));
        is("34: nobody's", 0, whose(x, 0, 2, 2, 3));
        int[][] wrong = {{4, 0}, {0, 7}, {255, 0}, {0, 255}, {0}, {0, 0, 0}, new int[42]};
        for (int[] rows : wrong) {
            CHECK.fails("32: not that", NONE_SUCH, () -> hand(x, false, rows));
            CHECK.fails("33: not that", NONE_SUCH, () -> ask(x, rows));
            CHECK.fails("34: not that", NONE_SUCH, () -> whose(x, rows));
            is("32: the tape is used up", false, x.end(1));
        }
    }

    private static void times() {
        PencilUp x = Check.evening(SMALL);
        is("9: done", 9, x.writer(0, 7));
        is("9: lag", 0, x.writer(0, 8));
        is("9: edge", 1, x.writer(0, 9));
        is("9: done", 13, x.writer(1, 7));
        is("9: lag", 3, x.writer(1, 8));
        is("9: edge", 3, x.writer(1, 9));
        is("35: fluent", 1, x.fluent());
        x.minutes(3);
        is("9: said or not", 13, x.writer(1, 7));
        x.tempo(3);
        is("35: fluent", 3, x.fluent());
        x.leave(0, 1, true);
        x.leave(0, 2, true);
        is("9: no strokes take none", 12, x.writer(0, 7));
        PencilUp y = Check.evening("word a often 1;writer speed 1");
        is("9: done without a word", 0, y.writer(0, 7));
        is("9: lag without", 0, y.writer(0, 8));
        is("9: edge without", 1, y.writer(0, 9));
        PencilUp z = Check.evening("word abcdef often 1;word a often 1;writer speed 1;writer speed 4;speech 0 1 1;tempo 1");
        is("9: lag is the latest", 5, z.writer(0, 8));
        is("9: rounded up", 4, z.writer(1, 7));
        is("9: edge", 6, z.writer(0, 9));
        is("9: edge", 2, z.writer(1, 9));
    }

    private static void pagesRead() {
        PencilUp x = Check.evening("word ab often 5;word b often 1;writer speed 9 leaves a;writer speed 1;"
            + "speech 1 0 1 0;tempo 1");
        is("9: share of nothing", 0, x.writer(0, 13));
        x.minutes(2);
        is("9: run of what is said", 2, x.writer(0, 10));
        is("9: true: b is read as ab", 1, x.writer(0, 12));
        is("9: gaps: ab is missed", 1, x.writer(1, 11));
        is("9: true", 1, x.writer(1, 12));
        is("9: share of three", 66, x.writer(0, 13));
        is("9: share of three", 33, x.writer(1, 13));
        is("36: better", false, x.better(0, 1));
        is("36: better", false, x.better(1, 0));
        x.minutes(2);
        is("36: better", false, x.better(0, 1));
        is("9: run is broken", 1, x.writer(1, 10));
        x.leave(0, 0, false);
        is("36: better when all is read", true, x.better(0, 1));
        is("9: gaps", 0, x.writer(0, 11));
        CHECK.fails("36: one", NONE_SUCH, () -> x.better(1, 1) ? 1 : 0);
        CHECK.fails("36: writer", NO_SUCH, () -> x.better(2, 2) ? 1 : 0);
        CHECK.fails("36: writer", NO_SUCH, () -> x.better(0, -1) ? 1 : 0);
    }

    private static void changes() {
        PencilUp x = Check.evening("word abc often 1;word bcd often 1;word a often 1;word abc often 1;word gfedcb often 1;word bc often 1;word b often 1");
        is("37: change", 2, x.change(0, 1));
        is("37: change", 2, x.change(1, 0));
        is("37: alike", 0, x.change(0, 3));
        is("37: itself", 0, x.change(4, 4));
        is("37: far", 6, x.change(2, 4));
        is("38: itself", 0, x.chain(4, 4));
        is("38: alike is a step", 1, x.chain(0, 3));
        is("38: abc bc bcd", 2, x.chain(0, 1));
        is("38: abc bc b a", 3, x.chain(3, 2));
        is("38: none", -1, x.chain(0, 4));
        CHECK.fails("37: word", NO_SUCH, () -> x.change(0, 7));
        CHECK.fails("37: word", NO_SUCH, () -> x.change(-1, 0));
        CHECK.fails("38: word", NO_SUCH, () -> x.chain(0, 7));
        CHECK.fails("38: word", NO_SUCH, () -> x.chain(7, 0));
        int[][] speeches = {{}, {0}, {0, 0}, {0, 0, 0}, {0, 0, 0, 0}, {0, 1, 2, 0, 1}, {0, 1, 0, 1, 0}, {0, 1, 2, 3}};
        int[] wants = {0, 0, 1, 1, 2, 2, 2, 0};
        for (int k = 0; k < wants.length; k++) {
            x.back();
            if (k == 0) {
                x.image();
            }
            for (int word : speeches[k]) {
                x.speak(word);
            }
            is("39: echo " + k, wants[k], x.echo());
        }
    }

    private static void sharing() {
        PencilUp x = Check.evening("writer speed 3 leaves ab;writer speed 9;writer speed 4 leaves abcd");
        // Claims: 3 9 4; 3 4 4; 3 3 4; 3 3 2: to 1, 1, 2, 0, 1.
        int[][] wants = {{0, 0, 0}, {0, 1, 0}, {0, 2, 0}, {0, 2, 1}, {1, 2, 1}, {1, 3, 1}};
        for (int n = 0; n < wants.length; n++) {
            for (int k = 0; k < 3; k++) {
                is("40: pages " + n, wants[n][k], x.pages(k, n));
            }
        }
        is("40: all beyond the speeds go to the least", 99 - 9 - 4, x.pages(0, 99));
        CHECK.fails("40: n", NONE_SUCH, () -> x.pages(0, 100));
        CHECK.fails("40: n", NONE_SUCH, () -> x.pages(0, -1));
        CHECK.fails("40: writer, told first", NO_SUCH, () -> x.pages(3, 100));
        is("41: pairs", 4, x.pairs(-1));
        is("41: none is the least", -1, x.pairs(0));
        is("41: with", 2, x.pairs(1));
        is("41: with", 1, x.pairs(2));
        CHECK.fails("41: writer", NO_SUCH, () -> x.pairs(3));
        CHECK.fails("41: writer", NO_SUCH, () -> x.pairs(-2));
        PencilUp same = Check.evening("writer speed 1;writer speed 1");
        is("41: nothing to be had", 0, same.pairs(-1));
        is("41: so none", -1, same.pairs(0));
        PencilUp five = Check.evening("writer speed 1 leaves a;writer speed 1 leaves b;writer speed 1 leaves c;writer speed 1 leaves d;writer speed 1");
        is("41: pairs of five", 4, five.pairs(-1));
        int[] partners = {1, 0, 3, 2, -1};
        for (int k = 0; k < 5; k++) {
            is("41: the first way", partners[k], five.pairs(k));
        }
        is("41: nobody", 0, new PencilUp().pairs(-1));
    }

    private static void choicesAndOdds() {
        PencilUp x = Check.evening("word ab often 1;writer speed 1 tired 50;writer speed 9 skill 1;slip 33");
        is("42: sitting and meant", 8, x.rests(0));
        is("42: with skill also written and said", 9, x.rests(1));
        CHECK.fails("42: writer", NO_SUCH, () -> x.rests(2));
        CHECK.fails("42: writer", NO_SUCH, () -> x.rests(-1));
        int[] wants = {10000, 6700, 4489, 3007, 2014};
        for (int n = 0; n < wants.length; n++) {
            is("43: odds " + n, wants[n], x.odds(0, 0, n));
        }
        is("43: by slips", 7200, x.odds(1, 0, 1));
        CHECK.fails("43: n", NONE_SUCH, () -> x.odds(0, 0, 5));
        CHECK.fails("43: n", NONE_SUCH, () -> x.odds(0, 0, -1));
        CHECK.fails("43: word", NO_SUCH, () -> x.odds(0, 1, 5));
        CHECK.fails("43: writer", NO_SUCH, () -> x.odds(2, 0, 5));
    }

    private static void greatest() {
        PencilUp none = new PencilUp();
        is("44: none", -1, none.oftenest(true));
        is("44: none", -1, none.oftenest(false));
        is("45: none", -1, none.quickest(true));
        is("45: none", -1, none.quickest(false));
        PencilUp x = Check.evening("word a often 2;word abc often 1;word b often 2;word bcd often 1;"
            + "writer speed 2;writer speed 4;writer speed 4 tired 8;writer speed 1 tired 8");
        is("44: oftenest", 0, x.oftenest(true));
        is("44: longest", 1, x.oftenest(false));
        is("45: quickest", 1, x.quickest(true));
        is("45: weariest", 2, x.quickest(false));
        x.rest(2);
        x.rest(3);
        is("45: weariest of none tired", 0, x.quickest(false));
    }

    private static void minutesAhead() {
        PencilUp x = Check.evening("word abc often 1;writer speed 1;writer speed 1 tired 10;speech 0 0 0;slip 25");
        x.seed(1);
        // Draws 38, 58 or 38; the second writer has 2 strokes too few at first, and so misses.
        is("49: ahead 0", 10, x.ahead(1, 0));
        is("49: ahead 1", 8, x.ahead(1, 1));
        is("49: ahead 2: keeps up again", 11, x.ahead(1, 2));
        is("49: ahead 3", 9, x.ahead(1, 3));
        is("49: ahead 60", 0, x.ahead(1, 60));
        is("49: ahead of one who keeps up", 9, x.ahead(0, 3));
        CHECK.fails("49: n", NONE_SUCH, () -> x.ahead(0, 61));
        CHECK.fails("49: n", NONE_SUCH, () -> x.ahead(0, -1));
        CHECK.fails("49: writer, told first", NO_SUCH, () -> x.ahead(2, 61));
        // Draws of seed 1: 38 writes; 58 writes, 13 slips; 15 slips.
        is("50: trial", 2, x.trial(3, false));
        is("50: trial tired", 18, x.trial(3, true));
        is("50: trial 0", 0, x.trial(0, false));
        is("50: trial 0 tired", 10, x.trial(0, true));
        is("50: nothing stays", 1, x.seed(1));
        is("50: nothing stays", 0, x.count(5));
        is("50: nothing stays", 0, x.count(10));
        is("50: no act", 0, x.count(11));
        CHECK.fails("50: n", NONE_SUCH, () -> x.trial(61, true));
        CHECK.fails("50: n", NONE_SUCH, () -> x.trial(-1, true));
        is("51: span 0", 0, x.span(0, true));
        int least = 9;
        int most = 0;
        for (int seed = 1; seed <= 6; seed++) {
            x.seed(seed);
            x.minutes(3);
            int slipped = 0;
            for (int k = 0; k < 6; k++) {
                slipped += x.page(k / 3, k % 3) == 2 ? 1 : 0;
            }
            least = Math.min(least, slipped);
            most = Math.max(most, slipped);
            x.undo();
        }
        is("51: some span", true, least < most);
        is("51: least", least, x.span(3, false));
        is("51: greatest", most, x.span(60, true));
        x.seed(1);
        x.minutes(2);
        is("50: what was written counts", 2, x.trial(1, false));
        is("51: what was slipped counts", 1, x.span(0, false));
        CHECK.fails("51: n", NONE_SUCH, () -> x.span(61, true));
        CHECK.fails("51: n", NONE_SUCH, () -> x.span(-1, true));
    }

    private static void logRows() {
        PencilUp x = Check.evening("word a often 1;word b often 1;writer speed 9;writer speed 1 tired 99;writer speed 9;"
            + "writer speed 9;speech 0 1 0 1 0 1;speech 0 1 0 1 0 1;speech 0 1 0 1 0;minute 40");
        is("52: none", -1, x.led(0, true));
        is("52: no rows", 0, x.led(0, false));
        is("53: none", -1, x.log(0, 0));
        x.minutes(2);
        is("58: rows", 8, x.count(10));
        int[][] wants = {{41, 3, 1, 1}, {41, 2, 1, 1}, {41, 1, 1, 0}, {41, 0, 1, 1}, {40, 3, 0, 1}};
        for (int ago = 0; ago < wants.length; ago++) {
            for (int what = 0; what < 4; what++) {
                is("53: log " + ago + " " + what, wants[ago][what], x.log(ago, what));
            }
        }
        is("52: latest", 41, x.led(0, true));
        is("52: rows", 2, x.led(0, false));
        is("53: ago beyond", -1, x.log(8, 0));
        is("53: ago below", -1, x.log(-1, 0));
        CHECK.fails("53: what", NO_WHAT, () -> x.log(0, 4));
        CHECK.fails("53: what", NO_WHAT, () -> x.log(99, -1));
        CHECK.fails("52: writer", NO_SUCH, () -> x.led(4, true));
        CHECK.fails("52: writer", NO_SUCH, () -> x.led(-1, false));
        x.minutes(60);
        is("58: rows at most 60", 60, x.count(10));
        is("52: rows of the latest 60", 15, x.led(1, false));
        is("53: the latest", 56, x.log(0, 0));
        is("53: the 60th", 42, x.log(59, 0));
        is("53: the 60th", 0, x.log(59, 1));
        is("53: the 61st", -1, x.log(60, 0));
    }

    private static void undoing() {
        PencilUp x = Check.evening("word a often 1;writer speed 1 skill 9 tired 7;speech 0 0;slip 50");
        is("55: nothing", false, x.undo());
        x.minutes(2);
        x.speak(0);
        x.leave(0, 3, true);
        x.leave(0, 3, true);
        x.learn(0);
        x.rest(0);
        x.rest(0);
        x.often(0, 1);
        x.tempo(3);
        x.speed(0, 1);
        is("58: all are acts, also those that change nothing", 10, x.count(11));
        x.seed(5);
        x.image();
        CHECK.fails("a call that throws is no act", NO_SUCH, () -> x.learn(1));
        CHECK.fails("a call that throws is no act", NONE_SUCH, () -> x.tempo(0));
        is("58: acts", 10, x.count(11));
        for (int k = 9; k >= 0; k--) {
            is("55: undo", true, x.undo());
            is("58: acts", k, x.count(11));
            is("55: rested", k > 5 ? 0 : k > 0 ? 9 : 7, x.writer(0, 3));
            is("55: left out", k > 2 ? 8 : 0, x.writer(0, 0));
            is("55: speech", k > 1 ? 3 : 2, x.count(4));
            is("55: said", k > 0 ? 2 : 0, x.count(5));
            is("55: log", k > 0 ? 2 : 0, x.count(10));
            is("55: minute", k > 0 ? 2 : 0, x.count(8));
        }
        is("55: nothing more", false, x.undo());
        is("55: seed, too, is as ahead", 1, x.seed(9));
        for (int k = 1; k <= 13; k++) {
            x.tempo(1 + k % 9);
        }
        is("58: twelve are remembered", 12, x.count(11));
        for (int k = 12; k > 0; k--) {
            is("55: undo", true, x.undo());
            is("55: tempo", 1 + k % 9, x.count(6));
        }
        is("55: the 13th is not remembered", false, x.undo());
        is("55: tempo", 2, x.count(6));
        x.tempo(5);
        is("5: law", 0, x.law());
        is("55: none behind a law", false, x.undo());
        x.tempo(6);
        is("4: evening", 2, x.evening());
        is("55: none behind a text", 0, x.count(11));
        x.tempo(7);
        x.feed(1, 2, 3, 4, 5);
        x.end(3);
        x.undo();
        is("55: but for the tape", true, x.end(3));
        is("55: and the image", true, x.back());
        is("56: as it was kept", 8, x.writer(0, 0));
    }

    private static void imageKept() {
        PencilUp x = Check.evening("word a often 1;writer speed 1;speech 0 0;slip 50", "slip 5;rest 6");
        is("57: none", false, x.back());
        x.tempo(4);
        x.seed(66);
        x.image();
        is("56: acts stay", 1, x.count(11));
        Check.tell(x, "word b often 7;writer speed 2;tempo 9;slip 1;minute 9");
        x.evening();
        x.law();
        x.minutes(1);
        Check.tell(x, "nothing");
        CHECK.fails("5: wrong", NONE_SUCH, () -> x.law());
        Check.tell(x, "left");
        is("57: back", true, x.back());
        int[] wants = {1, 1, 1, 2, 2, 0, 4, 50, 0, 0, 0, 0};
        for (int what = 0; what < wants.length; what++) {
            is("57: count " + what, wants[what], x.count(what));
        }
        is("57: law", 55, x.slips(0, 0));
        is("57: seed", 66, x.seed(66));
        is("57: but for fault", 0, x.fault());
        is("57: but for the tape", true, x.end(4));
        is("57: nothing to undo", false, x.undo());
        x.tempo(1);
        is("57: back again", true, x.back());
        is("57: tempo", 4, x.count(6));
        x.tempo(2);
        x.image();
        x.undo();
        is("55: undone", 4, x.count(6));
        x.back();
        is("56: the image stays when acts are undone", 2, x.count(6));
    }
}
