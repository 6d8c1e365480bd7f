/** Boundary cases of promises 26 to 48: what may be left out, codes, rows on the tape, words and writers compared. */
public final class EdgesQuestionsTest {
    private static final String EIGHT = "word a often 1;word b often 1;word c often 1;word d often 1;word e often 1;word f often 1;word g often 1;word h often 1";

    public static void main(String[] args) {
        Edges.runAll(EdgesQuestionsTest.class);
    }

    private static long asked(PencilUp x, Edges.On question, int... bytes) {
        Check.rows(x, bytes);
        return question.answer(x);
    }

    // ---- 26: keep ----

    private static void p26_0OfOneWordOrNone() {
        Edges.is(0, new PencilUp().keep());
        Edges.is(0, Check.evening("word abcdef often 1").keep());
        Edges.is(1, Check.evening("word a often 1;word b often 1").keep());
    }

    private static void p26_noneIfTwoAreOfOneRowOfLetters() {
        Edges.is(PencilUp.NONE, Check.evening("word ab often 1;word ab often 2").keep());
        Edges.is(PencilUp.NONE, Check.evening("word a often 1;word b often 1;word c often 1;word b often 1").keep());
        Edges.is(3, Check.evening("word ab often 1;word ba often 2").keep());
    }

    private static void p26_theFewestThenTheLeast() {
        // Both a with b, and h alone, tell abh and bahh apart.
        Edges.is(128, Check.evening("word abh often 1;word bahh often 1").keep());
        Edges.is(2, Check.evening("word ab often 1;word ac often 1").keep());
        Edges.is(4, Check.evening("word ac often 1;word acc often 1").keep());
    }

    private static void p26_sevenOfEight() {
        Edges.is(127, Check.evening(EIGHT).keep());
    }

    private static void p26_allEight() {
        String text = "word ab often 1;word ba often 1;word cd often 1;word dc often 1;word ef often 1;word fe often 1;word gh often 1";
        // Without hg, gh may be nothing; each of the other pairs needs both of its letters.
        Edges.is(63, Check.evening(text).keep());
        Edges.is(255, Check.evening(text + ";word hg often 1").keep());
    }

    private static void p26_changesNothing() {
        Edges.changesNothing(PencilUp::keep);
    }

    // ---- 27: leaves ----

    private static void p27_p0To999() {
        PencilUp x = Check.evening("word a often 5;word b often 3");
        Edges.is(1, x.leaves(0, false));
        Edges.is(3, x.leaves(999, false));
        for (int wrong : new int[] {-1, 1000, Integer.MIN_VALUE, Integer.MAX_VALUE}) {
            Edges.fails(Edges.NONE_SUCH, () -> x.leaves(wrong, false));
            Edges.fails(Edges.NONE_SUCH, () -> x.leaves(wrong, true));
        }
        Edges.refused(Edges.NONE_SUCH, y -> y.leaves(-1, true));
        Edges.refused(Edges.NONE_SUCH, y -> y.leaves(1000, false));
    }

    private static void p27_lostIsPAtMost() {
        PencilUp x = Check.evening("word a often 5;word b often 3");
        Edges.is(1, x.leaves(2, false));
        Edges.is(5, x.leaves(2, true));
        Edges.is(3, x.leaves(3, false));
        Edges.is(8, x.leaves(3, true));
    }

    private static void p27_ofSeveralTheLeast() {
        Edges.is(1, Check.evening("word a often 5;word b often 5").leaves(0, false));
        Edges.is(2, Check.evening("word a often 5;word b often 6").leaves(0, false));
        Edges.is("letters that no word has are left alone", 4, Check.evening("word c often 5").leaves(0, false));
        Edges.is(0, Check.evening("word a often 1;word aa often 1").leaves(0, false));
        Edges.is(0, Check.evening("word a often 1;word aa often 1").leaves(0, true));
    }

    private static void p27_noneIfLostIsAbovePWhateverIsLeftOut() {
        PencilUp x = Check.evening("word a often 5;word a often 5");
        Edges.is(PencilUp.NONE, x.leaves(4, false));
        Edges.is(PencilUp.NONE, x.leaves(4, true));
        Edges.is(1, x.leaves(5, false));
        Edges.is(10, x.leaves(5, true));
    }

    private static void p27_theMostThatCanBeLost() {
        PencilUp x = Check.evening("word abcdef often 99;".repeat(7) + "word abcdef often 99");
        Edges.is(PencilUp.NONE, x.leaves(692, true));
        Edges.is(6 * 8 * 99, x.leaves(693, true));
        Edges.is(63, x.leaves(693, false));
    }

    private static void p27_0WithoutWords() {
        Edges.is(0, new PencilUp().leaves(0, false));
        Edges.is(0, new PencilUp().leaves(0, true));
        Edges.is(0, new PencilUp().leaves(999, true));
    }

    private static void p27_changesNothing() {
        Edges.changesNothing(x -> x.leaves(9, true));
    }

    // ---- 28: codes ----

    private static void p28_0OfOneWordOrNone() {
        Edges.is(0, new PencilUp().codes());
        Edges.is(0, Check.evening("word a often 99").codes());
        Edges.is(100, Check.evening("word a often 99;word b often 1").codes());
    }

    private static void p28_theLeastTogether() {
        Edges.is(8 * 3 * 99, Check.evening(EIGHT.replace("often 1", "often 99")).codes());
        // 98 1 1: one stroke and two of two.
        Edges.is(98 + 4, Check.evening("word a often 98;word b often 1;word c often 1").codes());
        // 1 1 1 1 4: 4 times 3 and 4.
        Edges.is(16, Check.evening("word a often 1;word b often 1;word c often 1;word d often 1;word e often 4").codes());
        Edges.is(64 + 64 + 48 + 32 + 20 + 12 + 7 + 7, Check.evening("word a often 64;word b often 32;word c often 16;word d often 8;word e often 4;word f often 2;word g often 1;word h often 1").codes());
    }

    private static void p28_ofEightWordsLengthsAndOftenMakeIt() {
        PencilUp x = Check.evening("word a often 7;word b often 30;word c often 2;word d often 99;word e often 1;word f often 30;word g often 5;word h often 11");
        int together = 0;
        int room = 0;
        for (int k = 0; k < 8; k++) {
            together += x.word(k, 1) * x.word(k, 2);
            room += 128 >> x.word(k, 2);
        }
        Edges.is(together, x.codes());
        Edges.is("none of the room is left", 128, room);
    }

    private static void p28_nothingIsLeftOfMoreWords() {
        PencilUp x = Check.evening("word a often 7;word b often 2");
        x.image();
        Edges.more(x, "word c often 99;word d often 50;word e often 1");
        Edges.is(99 + 2 * 50 + 3 * 7 + 4 * 3, x.codes());
        x.back();
        Edges.is(9, x.codes());
        Edges.is(1, x.word(0, 2));
        Edges.is(1, x.word(1, 2));
    }

    private static void p28_changesNothing() {
        Edges.changesNothing(PencilUp::codes);
    }

    // ---- 29: heard ----

    private static void p29_noneMayBeTold() {
        Edges.is(0, new PencilUp().heard());
        Edges.is(255, Check.evening(EIGHT).heard());
    }

    private static void p29_place0To5() {
        PencilUp x = Check.evening("word abcdef often 1;word h often 1");
        Edges.is(1, asked(x, PencilUp::heard, 0, 0, 5, 5));
        Edges.is(1, asked(x, PencilUp::heard, 5, 5, 5, 5));
        Edges.fails(Edges.NONE_SUCH, () -> asked(x, PencilUp::heard, 6, 0));
        Edges.fails(Edges.NONE_SUCH, () -> asked(x, PencilUp::heard, 0, 0, 6, 0));
        Edges.fails(Edges.NONE_SUCH, () -> asked(x, PencilUp::heard, 255, 0));
    }

    private static void p29_letter0To7() {
        PencilUp x = Check.evening("word abcdef often 1;word h often 1");
        Edges.is(2, asked(x, PencilUp::heard, 0, 7, 0, 7));
        Edges.is(1, asked(x, PencilUp::heard, 0, 0, 0, 0));
        Edges.fails(Edges.NONE_SUCH, () -> asked(x, PencilUp::heard, 0, 8));
        Edges.fails(Edges.NONE_SUCH, () -> asked(x, PencilUp::heard, 0, 0, 0, 8));
        Edges.fails(Edges.NONE_SUCH, () -> asked(x, PencilUp::heard, 0, 255));
    }

    private static void p29_40BytesAtMostAndTwoByTwo() {
        PencilUp x = Check.evening("word a often 1");
        Edges.is(1, asked(x, PencilUp::heard, new int[40]));
        Edges.is(1, asked(x, PencilUp::heard, new int[38]));
        for (int many : new int[] {1, 3, 39, 41, 42, 60, 400}) {
            Edges.fails(Edges.NONE_SUCH, () -> asked(x, PencilUp::heard, new int[many]));
            Edges.is(20, x.feed(0, 0, 0, 0, 0));
            x.end(0);
        }
    }

    private static void p29_oneRowMayBeWrongAndNotTwo() {
        PencilUp x = Check.evening("word abc often 1");
        Edges.is(1, asked(x, PencilUp::heard, 0, 0, 1, 1, 2, 2));
        Edges.is(1, asked(x, PencilUp::heard, 0, 0, 1, 1, 2, 7));
        Edges.is(0, asked(x, PencilUp::heard, 0, 0, 1, 7, 2, 7));
        Edges.is(1, asked(x, PencilUp::heard, 0, 7));
        Edges.is("no letter is none of these", 0, asked(x, PencilUp::heard, 3, 0, 4, 0));
        Edges.is(1, asked(x, PencilUp::heard, 3, 0));
    }

    private static void p29_eachRowCountsAsOftenAsItIsTold() {
        PencilUp x = Check.evening("word abc often 1");
        Edges.is(0, asked(x, PencilUp::heard, 0, 7, 0, 7));
        Edges.is(1, asked(x, PencilUp::heard, 0, 0, 0, 7));
        int[] rows = new int[40];
        rows[39] = 7;
        Edges.is(1, asked(x, PencilUp::heard, rows));
        rows[37] = 7;
        Edges.is(0, asked(x, PencilUp::heard, rows));
    }

    private static void p29_refusedUsesTheTapeUpAlone() {
        Edges.refusedTape(Edges.NONE_SUCH, PencilUp::heard);
        Edges.changesNothing(x -> {
            x.end(0);
            asked(x, PencilUp::heard, 0, 0);
            Check.tell(x, "slip 7;");
            return 0;
        });
    }

    // ---- 30: likely ----

    private static void p30_noneIfNoneFits() {
        Edges.is(PencilUp.NONE, new PencilUp().likely());
        PencilUp x = Check.evening("word abc often 1");
        Edges.is(0, asked(x, PencilUp::likely));
        Edges.is(0, asked(x, PencilUp::likely, 0, 7));
        Edges.is(PencilUp.NONE, asked(x, PencilUp::likely, 0, 7, 1, 7));
    }

    private static void p30_theFewestWrongThenTheMostOftenThenTheLeast() {
        PencilUp x = Check.evening("word ab often 99;word ac often 1;word ac often 2;word ac often 2");
        Edges.is("one wrong row, however often", 2, asked(x, PencilUp::likely, 0, 0, 1, 2));
        Edges.is(0, asked(x, PencilUp::likely, 0, 0));
        x.often(0, 2);
        Edges.is(0, asked(x, PencilUp::likely, 0, 0));
        x.often(3, 3);
        Edges.is(3, asked(x, PencilUp::likely, 0, 0));
        Edges.is("all wrong by one", 3, asked(x, PencilUp::likely, 0, 7));
    }

    private static void p30_theTapeLikewise() {
        PencilUp x = Check.evening("word a often 1");
        Edges.is(0, asked(x, PencilUp::likely, new int[40]));
        Edges.is(PencilUp.NONE, asked(x, PencilUp::likely, 5, 7, 5, 7));
        int[][] wrong = {{6, 0}, {0, 8}, {0, 0, 255, 0}, {0, 0, 0, 255}, new int[1], new int[39], new int[41], new int[42]};
        for (int[] rows : wrong) {
            Edges.fails(Edges.NONE_SUCH, () -> asked(x, PencilUp::likely, rows));
            Edges.is(20, x.feed(0, 0, 0, 0, 0));
            x.end(0);
        }
        Edges.refusedTape(Edges.NONE_SUCH, PencilUp::likely);
    }

    // ---- 31: look ----

    private static void p31_noneWithFewerThanTwo() {
        Edges.is(PencilUp.NONE, new PencilUp().look());
        Edges.is(PencilUp.NONE, asked(Check.evening("word a often 1"), PencilUp::look));
        PencilUp x = Check.evening("word ab often 1;word cd often 1");
        Edges.is(0, asked(x, PencilUp::look));
        Edges.is(PencilUp.NONE, asked(x, PencilUp::look, 0, 0, 1, 1));
        Edges.is(PencilUp.NONE, asked(x, PencilUp::look, 0, 7, 1, 7));
        Edges.is("one right row of two fits both", 0, asked(x, PencilUp::look, 0, 0, 1, 3));
    }

    private static void p31_theFirstAndTheLastPlace() {
        Edges.is(5, asked(Check.evening("word abcdef often 1;word abcdeg often 1"), PencilUp::look));
        Edges.is(0, asked(Check.evening("word abcdef often 1;word bbcdef often 1"), PencilUp::look));
        Edges.is("of several the least", 2, asked(Check.evening("word abcdef often 1;word abdeff often 1"), PencilUp::look));
        Edges.is("where none is parted", 0, asked(Check.evening("word ab often 1;word ab often 1"), PencilUp::look));
    }

    private static void p31_allEightAlike() {
        PencilUp x = Check.evening("word ab often 1;".repeat(7) + "word ab often 1");
        Edges.is(0, asked(x, PencilUp::look));
        PencilUp y = Check.evening("word ab often 1;".repeat(7) + "word ac often 1");
        Edges.is(1, asked(y, PencilUp::look));
    }

    private static void p31_nothingIsALetterToo() {
        Edges.is(1, asked(Check.evening("word ab often 1;word a often 1"), PencilUp::look));
        Edges.is(5, asked(Check.evening("word abcdef often 1;word abcde often 1"), PencilUp::look));
        Edges.is("a is not nothing", 1, asked(Check.evening("word aa often 1;word a often 1"), PencilUp::look));
    }

    private static void p31_theGreatestPartIsTheLeast() {
        // Place 0 parts 3 and 1, place 1 parts 2 and 2, place 2 parts 2, 1 and 1.
        PencilUp x = Check.evening("word aca often 1;word acb often 1;word adc often 1;word bdc often 1");
        Edges.is(1, asked(x, PencilUp::look));
        // Of all four place 0 parts 2, 1 and 1; of the two that fit twice an a place 1 parts 1 and 1.
        PencilUp y = Check.evening("word ab often 1;word ac often 1;word gb often 1;word hb often 1");
        Edges.is(0, asked(y, PencilUp::look));
        Edges.is("of those that fit alone", 1, asked(y, PencilUp::look, 0, 0, 0, 0));
    }

    private static void p31_theTapeLikewise() {
        PencilUp x = Check.evening("word a often 1;word b often 1");
        Edges.is(PencilUp.NONE, asked(x, PencilUp::look, new int[40]));
        Edges.is(0, asked(x, PencilUp::look, 5, 7));
        int[][] wrong = {{6, 0}, {0, 8}, {0, 0, 255, 0}, {0, 0, 0, 255}, new int[1], new int[39], new int[41], new int[42]};
        for (int[] rows : wrong) {
            Edges.fails(Edges.NONE_SUCH, () -> asked(x, PencilUp::look, rows));
            Edges.is(20, x.feed(0, 0, 0, 0, 0));
            x.end(0);
        }
        Edges.refusedTape(Edges.NONE_SUCH, PencilUp::look);
    }

    // ---- 32: hand ----

    private static void p32_noneMayBeToldAndAllSetsFit() {
        Edges.is(256, new PencilUp().hand(false));
        Edges.is(0, new PencilUp().hand(true));
        Edges.is(256, Check.evening(EIGHT).hand(false));
    }

    private static void p32_strokes0To6() {
        PencilUp x = Check.evening("word abcdef often 1;word h often 1");
        Edges.is(4, asked(x, y -> y.hand(false), 0, 6));
        Edges.is(0, asked(x, y -> y.hand(true), 0, 6));
        Edges.is(4, asked(x, y -> y.hand(false), 0, 0));
        Edges.is(63, asked(x, y -> y.hand(true), 0, 0));
        Edges.is("more than it has", 0, asked(x, y -> y.hand(false), 1, 6));
        Edges.fails(Edges.NONE_SUCH, () -> asked(x, y -> y.hand(false), 0, 7));
        Edges.fails(Edges.NONE_SUCH, () -> asked(x, y -> y.hand(true), 0, 255));
    }

    private static void p32_wordsThatThereAre() {
        PencilUp x = Check.evening(EIGHT);
        Edges.is(128, asked(x, y -> y.hand(false), 7, 1));
        Edges.is(128, asked(x, y -> y.hand(true), 7, 0));
        Edges.fails(Edges.NONE_SUCH, () -> asked(x, y -> y.hand(false), 8, 0));
        PencilUp one = Check.evening("word a often 1");
        Edges.fails(Edges.NONE_SUCH, () -> asked(one, y -> y.hand(false), 1, 0));
        Edges.fails(Edges.NONE_SUCH, () -> asked(new PencilUp(), y -> y.hand(false), 0, 0));
    }

    private static void p32_0AndNoneIfNoneFits() {
        PencilUp x = Check.evening("word a often 1");
        Edges.is(0, asked(x, y -> y.hand(false), 0, 0, 0, 1));
        Edges.is(PencilUp.NONE, asked(x, y -> y.hand(true), 0, 0, 0, 1));
    }

    private static void p32_justOneSetAndTheGreatest() {
        PencilUp x = Check.evening("word abcd often 1;word efgh often 1");
        Edges.is(1, asked(x, y -> y.hand(false), 0, 0, 1, 0));
        Edges.is(255, asked(x, y -> y.hand(true), 0, 0, 1, 0));
        Edges.is(1, asked(x, y -> y.hand(false), 0, 4, 1, 4));
    }

    private static void p32_40BytesAtMostAndTwoByTwo() {
        PencilUp x = Check.evening("word a often 1");
        Edges.is(128, asked(x, y -> y.hand(false), new int[40]));
        for (int many : new int[] {1, 3, 39, 41, 42, 400}) {
            Edges.fails(Edges.NONE_SUCH, () -> asked(x, y -> y.hand(false), new int[many]));
            Edges.is(20, x.feed(0, 0, 0, 0, 0));
            x.end(0);
        }
        Edges.refusedTape(Edges.NONE_SUCH, y -> y.hand(true));
        Edges.refusedTape(Edges.NONE_SUCH, y -> y.hand(false));
    }

    // ---- 33: ask ----

    private static void p33_noneWithFewerThanTwo() {
        PencilUp x = Check.evening("word abcdef often 1;word gh often 1;word g often 1");
        Edges.is("one set", PencilUp.NONE, asked(x, PencilUp::ask, 0, 6, 1, 2));
        Edges.is("no set", PencilUp.NONE, asked(x, PencilUp::ask, 1, 2, 2, 0));
        Edges.is("two sets", 2, asked(x, PencilUp::ask, 0, 6, 1, 1));
    }

    private static void p33_noneWithoutAWord() {
        Edges.is(PencilUp.NONE, new PencilUp().ask());
        Edges.is(0, asked(Check.evening("word a often 1"), PencilUp::ask));
    }

    private static void p33_ofSeveralTheLeast() {
        Edges.is(0, asked(Check.evening("word a often 1;word b often 1;word a often 1"), PencilUp::ask));
        Edges.is("a word that parts none", 0, asked(Check.evening("word a often 1;word a often 1"), PencilUp::ask, 0, 1));
        // Of 256 sets one letter parts 128 and 128, two part 64, 128 and 64, three 32, 96, 96 and 32.
        Edges.is(1, asked(Check.evening("word a often 1;word abc often 1;word ab often 1"), PencilUp::ask));
    }

    private static void p33_theTapeAsForHand() {
        PencilUp x = Check.evening("word a often 1;word b often 1");
        Edges.is(1, asked(x, PencilUp::ask, new int[40]));
        int[][] wrong = {{2, 0}, {0, 7}, {0, 0, 255, 0}, {0, 0, 0, 255}, new int[1], new int[39], new int[41], new int[42]};
        for (int[] rows : wrong) {
            Edges.fails(Edges.NONE_SUCH, () -> asked(x, PencilUp::ask, rows));
            Edges.is(20, x.feed(0, 0, 0, 0, 0));
            x.end(0);
        }
        Edges.refusedTape(Edges.NONE_SUCH, PencilUp::ask);
    }

    // ---- 34: whose ----

    private static void p34_withoutWritersAndWithoutRows() {
        Edges.is(0, new PencilUp().whose());
        Edges.is(31, Check.evening("writer speed 1;writer speed 1;writer speed 1;writer speed 1;writer speed 1").whose());
    }

    private static void p34_allRowsMustBeSo() {
        PencilUp x = Check.evening("word ab often 1;word c often 1;writer speed 1;writer speed 1 leaves a;writer speed 1 leaves b;writer speed 1 leaves abc;writer speed 1 leaves c");
        Edges.is(1 | 16, asked(x, PencilUp::whose, 0, 2));
        Edges.is(2 | 4, asked(x, PencilUp::whose, 0, 1));
        Edges.is(8, asked(x, PencilUp::whose, 0, 0));
        Edges.is(16, asked(x, PencilUp::whose, 0, 2, 1, 0));
        Edges.is("one wrong row is too many", 0, asked(x, PencilUp::whose, 0, 2, 0, 2, 0, 1));
        Edges.is(0, asked(x, PencilUp::whose, 0, 6));
    }

    private static void p34_theTapeAsForHand() {
        PencilUp x = Check.evening("word a often 1;word b often 1;writer speed 1 leaves a");
        Edges.is(1, asked(x, PencilUp::whose, new int[40]));
        int[][] wrong = {{2, 0}, {0, 7}, {0, 0, 255, 0}, {0, 0, 0, 255}, new int[1], new int[39], new int[41], new int[42]};
        for (int[] rows : wrong) {
            Edges.fails(Edges.NONE_SUCH, () -> asked(x, PencilUp::whose, rows));
            Edges.is(20, x.feed(0, 0, 0, 0, 0));
            x.end(0);
        }
        Edges.refusedTape(Edges.NONE_SUCH, PencilUp::whose);
    }

    // ---- 35: fluent ----

    private static void p35_withoutWritersAndWithoutASpeech() {
        Edges.is(0, new PencilUp().fluent());
        Edges.is(31, Check.evening("writer speed 1;writer speed 1;writer speed 1;writer speed 1;writer speed 1;tempo 1").fluent());
    }

    private static void p35_lag0AndNot1() {
        PencilUp x = Check.evening("word abcdef often 1;writer speed 3;writer speed 2;writer speed 1;writer speed 1 leaves abcdef;writer speed 9;speech 0 0;tempo 2");
        Edges.is(1 | 8 | 16, x.fluent());
        x.tempo(3);
        Edges.is(1 | 2 | 8 | 16, x.fluent());
        x.tempo(5);
        Edges.is(1 | 2 | 8 | 16, x.fluent());
        x.tempo(6);
        Edges.is(31, x.fluent());
        x.tempo(1);
        Edges.is(8 | 16, x.fluent());
    }

    // ---- 36: better ----

    private static void p36_moreAndNotAsMany() {
        PencilUp x = Check.evening("word a often 1;word bcd often 1;writer speed 9;writer speed 1;speech 0 1;tempo 1");
        Edges.is(false, x.better(0, 1));
        x.minutes(1);
        Edges.is(false, x.better(0, 1));
        Edges.is(false, x.better(1, 0));
        x.minutes(1);
        Edges.is(true, x.better(0, 1));
        Edges.is(false, x.better(1, 0));
    }

    private static void p36_bothAreOne() {
        PencilUp x = Check.evening("writer speed 1;writer speed 1;writer speed 1;writer speed 1;writer speed 1");
        for (int k = 0; k < 5; k++) {
            int writer = k;
            Edges.fails(Edges.NONE_SUCH, () -> x.better(writer, writer) ? 1 : 0);
        }
        Edges.refused(Edges.NONE_SUCH, y -> y.better(1, 1) ? 1 : 0);
    }

    private static void p36_noSuchWriterIsToldFirst() {
        PencilUp x = Check.evening("writer speed 1;writer speed 1");
        for (int wrong : new int[] {2, -1, Integer.MIN_VALUE, Integer.MAX_VALUE}) {
            Edges.fails(Edges.NO_SUCH, () -> x.better(wrong, wrong) ? 1 : 0);
            Edges.fails(Edges.NO_SUCH, () -> x.better(wrong, 0) ? 1 : 0);
            Edges.fails(Edges.NO_SUCH, () -> x.better(1, wrong) ? 1 : 0);
        }
        Edges.refused(Edges.NO_SUCH, y -> y.better(3, 3) ? 1 : 0);
    }

    // ---- 37: change ----

    private static void p37_0To6() {
        PencilUp x = Check.evening("word abcdef often 1;word bcdefa often 1;word gggggg often 1;word h often 1;word a often 1;word ab often 1;word ba often 1;word abcdef often 1");
        int[][] wants = {{0, 0, 0}, {0, 7, 0}, {0, 1, 2}, {0, 2, 6}, {0, 3, 6}, {0, 4, 5}, {3, 4, 1}, {4, 5, 1}, {5, 6, 2}, {2, 3, 6}};
        for (int[] want : wants) {
            Edges.is(want[0] + " and " + want[1], want[2], x.change(want[0], want[1]));
            Edges.is(want[1] + " and " + want[0], want[2], x.change(want[1], want[0]));
        }
    }

    private static void p37_nothingIsLeftOfWordsComparedBefore() {
        Edges.is(2, Check.evening("word c often 1;word ab often 1").change(0, 1));
        Edges.is(6, Check.evening("word h often 1;word abcdef often 1").change(0, 1));
        Edges.is(6, Check.evening("word h often 1;word abcdef often 1").change(1, 0));
        PencilUp x = Check.evening("word h often 1;word abcdef often 1;word abcdeg often 1;word cd often 1");
        Edges.is(1, x.change(1, 2));
        Edges.is(6, x.change(0, 1));
        Edges.is(2, x.change(0, 3));
        Edges.is(4, x.change(3, 1));
    }

    private static void p37_noSuchWord() {
        PencilUp x = Check.evening(EIGHT);
        Edges.is(1, x.change(7, 0));
        for (int wrong : Edges.NOWHERE) {
            Edges.fails(Edges.NO_SUCH, () -> x.change(wrong, 0));
            Edges.fails(Edges.NO_SUCH, () -> x.change(0, wrong));
            Edges.fails(Edges.NO_SUCH, () -> x.change(wrong, wrong));
        }
        Edges.refused(Edges.NO_SUCH, y -> y.change(0, 4));
        Edges.refused(Edges.NO_SUCH, y -> y.change(4, 0));
    }

    // ---- 38: chain ----

    private static void p38_0OfOneAndOneStepOfTwoAlike() {
        PencilUp x = Check.evening("word abc often 1;word abc often 1;word abd often 1;word add often 1");
        Edges.is(0, x.chain(0, 0));
        Edges.is(1, x.chain(0, 1));
        Edges.is(1, x.chain(0, 2));
        Edges.is(2, x.chain(0, 3));
    }

    private static void p38_theLongestIs7() {
        PencilUp x = Check.evening("word a often 1;word ab often 1;word abc often 1;word abcd often 1;word abcde often 1;word abcdef often 1;word hbcdef often 1;word hgcdef often 1");
        for (int word = 0; word < 8; word++) {
            for (int other = 0; other < 8; other++) {
                Edges.is(Math.abs(word - other), x.chain(word, other));
            }
        }
    }

    private static void p38_noneWhereChange2LiesBetween() {
        PencilUp x = Check.evening("word ab often 1;word cd often 1;word ef often 1");
        Edges.is(PencilUp.NONE, x.chain(0, 1));
        Edges.is(PencilUp.NONE, x.chain(2, 0));
        Edges.more(x, "word ad often 1");
        Edges.is(2, x.chain(0, 1));
        Edges.is(PencilUp.NONE, x.chain(2, 0));
    }

    private static void p38_noSuchWord() {
        PencilUp x = Check.evening(EIGHT);
        for (int wrong : Edges.NOWHERE) {
            Edges.fails(Edges.NO_SUCH, () -> x.chain(wrong, 0));
            Edges.fails(Edges.NO_SUCH, () -> x.chain(0, wrong));
            Edges.fails(Edges.NO_SUCH, () -> x.chain(wrong, wrong));
        }
        Edges.refused(Edges.NO_SUCH, y -> y.chain(0, 4));
        Edges.refused(Edges.NO_SUCH, y -> y.chain(4, 0));
    }

    // ---- 39: echo ----

    private static int echoOf(int... words) {
        PencilUp x = Check.evening(EIGHT);
        for (int word : words) {
            x.speak(word);
        }
        return x.echo();
    }

    private static void p39_0IfNoneIsTwice() {
        Edges.is(0, new PencilUp().echo());
        Edges.is(0, echoOf());
        Edges.is(0, echoOf(0));
        Edges.is(0, echoOf(0, 1));
        Edges.is(0, echoOf(0, 1, 2, 3, 4, 5, 6, 7));
        Edges.is(1, echoOf(0, 0));
        Edges.is(1, echoOf(0, 1, 2, 3, 4, 5, 6, 7, 0));
    }

    private static void p39_theTwoMayNotShareAPlace() {
        Edges.is(1, echoOf(0, 0, 0));
        Edges.is(2, echoOf(0, 0, 0, 0));
        Edges.is(2, echoOf(0, 1, 0, 1, 0));
        Edges.is(3, echoOf(0, 1, 0, 0, 1, 0));
    }

    private static void p39_tenOfTwenty() {
        Edges.is(10, echoOf(new int[20]));
        Edges.is(9, echoOf(new int[19]));
        Edges.is(10, echoOf(0, 1, 2, 3, 4, 5, 6, 7, 1, 0, 0, 1, 2, 3, 4, 5, 6, 7, 1, 0));
        Edges.is("all but the last", 9, echoOf(0, 1, 2, 3, 4, 5, 6, 7, 1, 0, 0, 1, 2, 3, 4, 5, 6, 7, 1, 7));
        Edges.is("all but the first", 9, echoOf(0, 1, 2, 3, 4, 5, 6, 7, 1, 0, 7, 1, 2, 3, 4, 5, 6, 7, 1, 0));
    }

    private static void p39_byWordsNotByTheirLetters() {
        PencilUp x = Check.evening("word a often 1;word a often 1;speech 0 1");
        Edges.is(0, x.echo());
        x.minutes(2);
        x.speak(0);
        Edges.is("said or not", 1, x.echo());
    }

    // ---- 40: pages ----

    private static void p40_n0To99() {
        PencilUp x = Check.evening("writer speed 1;writer speed 9;writer speed 5");
        for (int n : new int[] {0, 1, 15, 98, 99}) {
            Edges.is(n, x.pages(0, n) + x.pages(1, n) + x.pages(2, n));
        }
        Edges.is(0, x.pages(0, 0));
        for (int wrong : new int[] {-1, 100, Integer.MIN_VALUE, Integer.MAX_VALUE}) {
            Edges.fails(Edges.NONE_SUCH, () -> x.pages(0, wrong));
            Edges.fails(Edges.NO_SUCH, () -> x.pages(3, wrong));
            Edges.fails(Edges.NO_SUCH, () -> x.pages(-1, wrong));
        }
        Edges.refused(Edges.NO_SUCH, y -> y.pages(3, 0));
        Edges.refused(Edges.NONE_SUCH, y -> y.pages(0, -1));
        Edges.refused(Edges.NONE_SUCH, y -> y.pages(0, 100));
    }

    private static void p40_ofSeveralTheLeast() {
        PencilUp x = Check.evening("writer speed 1;writer speed 1");
        Edges.is(1, x.pages(0, 1));
        Edges.is(0, x.pages(1, 1));
        Edges.is(1, x.pages(1, 2));
        Edges.is("no speed is left: all to the least", 98, x.pages(0, 99));
        Edges.is(1, x.pages(1, 99));
    }

    private static void p40_speedBy1MoreThanThePagesItHasRoundedDown() {
        PencilUp x = Check.evening("writer speed 9;writer speed 1");
        Edges.is(0, x.pages(1, 9));
        Edges.is("9 by 10 is 0, rounded down", 1, x.pages(1, 10));
        Edges.is(1, x.pages(1, 99));
        PencilUp y = Check.evening("writer speed 3;writer speed 7");
        // 3 against 7, 3, 2, 1: to 1, to 0, to 1, then 1 against 2, 1 against 1.
        int[] wants = {0, 0, 1, 1, 1, 2, 3, 3};
        for (int n = 0; n < wants.length; n++) {
            Edges.is("of " + n, wants[n], y.pages(0, n));
        }
    }

    private static void p40_fiveWriters() {
        PencilUp x = Check.evening("writer speed 1;writer speed 2;writer speed 3;writer speed 4;writer speed 5");
        // The claims 5, 4, 3, 2 2 2 (of 1, 3, 4), then 1 as often as the speed allows; 0 goes to the least.
        int[][] wants = {{1, 0, 0, 0, 0, 1}, {2, 0, 0, 0, 1, 1}, {3, 0, 0, 1, 1, 1}, {4, 0, 1, 1, 1, 1}, {5, 0, 1, 1, 2, 1}, {6, 0, 1, 1, 2, 2},
            {7, 1, 1, 1, 2, 2}, {8, 1, 2, 1, 2, 2}, {99, 85, 2, 3, 4, 5}};
        for (int[] want : wants) {
            for (int k = 0; k < 5; k++) {
                Edges.is(want[0] + " pages, writer " + k, want[k + 1], x.pages(k, want[0]));
            }
        }
    }

    private static void p40_oneAloneHasAll() {
        Edges.is(99, Check.evening("writer speed 1").pages(0, 99));
    }

    // ---- 41: pairs ----

    private static void p41_nobodyAndOneAlone() {
        Edges.is(0, new PencilUp().pairs(PencilUp.NONE));
        PencilUp x = Check.evening("writer speed 1 leaves abc");
        Edges.is(0, x.pairs(PencilUp.NONE));
        Edges.is(PencilUp.NONE, x.pairs(0));
    }

    private static void p41_noneAskedIsHowManyAndNoOtherBelow0() {
        PencilUp x = Check.evening("writer speed 1;writer speed 1 leaves abcdefgh");
        Edges.is(8, x.pairs(-1));
        Edges.is(1, x.pairs(0));
        Edges.is(0, x.pairs(1));
        for (int wrong : new int[] {-2, 2, 5, Integer.MIN_VALUE, Integer.MAX_VALUE}) {
            Edges.fails(Edges.NO_SUCH, () -> x.pairs(wrong));
        }
        Edges.fails(Edges.NO_SUCH, () -> new PencilUp().pairs(0));
        Edges.refused(Edges.NO_SUCH, y -> y.pairs(3));
        Edges.refused(Edges.NO_SUCH, y -> y.pairs(-2));
    }

    private static void partners(String text, int together, int... wants) {
        PencilUp x = Check.evening(text);
        Edges.is(text, together, x.pairs(PencilUp.NONE));
        for (int k = 0; k < wants.length; k++) {
            Edges.is("with " + k + " of " + text, wants[k], x.pairs(k));
        }
    }

    private static void p41_noneIsTheLeast() {
        partners("writer speed 1;writer speed 1", 0, -1, -1);
        partners("writer speed 1;writer speed 1;writer speed 1 leaves a", 1, -1, 2, 1);
        partners("writer speed 1 leaves a;writer speed 1 leaves b;writer speed 1", 2, 1, 0, -1);
        partners("writer speed 1 leaves a;writer speed 1 leaves a;writer speed 1 leaves a;writer speed 1 leaves a", 0, -1, -1, -1, -1);
    }

    private static void p41_thenTheOthersWriterByWriter() {
        partners("writer speed 1 leaves a;writer speed 1 leaves b;writer speed 1 leaves c;writer speed 1 leaves d", 4, 1, 0, 3, 2);
        partners("writer speed 1 leaves a;writer speed 1 leaves a;writer speed 1 leaves b;writer speed 1 leaves b", 4, 2, 3, 0, 1);
        partners("writer speed 1 leaves ab;writer speed 1;writer speed 1;writer speed 1 leaves ab", 4, 1, 0, 3, 2);
    }

    private static void p41_fiveWritersOneIsLeft() {
        partners("writer speed 1;writer speed 1 leaves abcdefgh;writer speed 1;writer speed 1 leaves abcdefgh;writer speed 1 leaves a", 16, 1, 0, 3, 2, -1);
        partners("writer speed 1 leaves a;writer speed 1;writer speed 1 leaves abcdefgh;writer speed 1;writer speed 1 leaves abcdefgh", 16, -1, 2, 1, 4, 3);
        // All five leave one letter each: two pairs of 2, and the first is left alone.
        partners("writer speed 1 leaves a;writer speed 1 leaves b;writer speed 1 leaves c;writer speed 1 leaves d;writer speed 1 leaves e", 4, -1, 2, 1, 4, 3);
    }

    // ---- 42: rests ----

    private static void p42_asMuchIsNotMore() {
        PencilUp x = Check.evening("writer speed 1;writer speed 1 skill 1;writer speed 9 skill 2 tired 99;writer speed 9 tired 9;writer speed 9 skill 9");
        int[] wants = {8, 9, 9, 8, 9};
        for (int k = 0; k < 5; k++) {
            Edges.is(wants[k], x.rests(k));
        }
    }

    private static void p42_noSuchWriter() {
        PencilUp x = Check.evening("writer speed 1");
        Edges.fails(Edges.NO_SUCH, () -> x.rests(1));
        for (int wrong : Edges.NOWHERE) {
            Edges.fails(Edges.NO_SUCH, () -> x.rests(wrong));
        }
        Edges.refused(Edges.NO_SUCH, y -> y.rests(3));
    }

    // ---- 43: odds ----

    private static void p43_n0To4() {
        PencilUp x = Check.evening("word a often 1;writer speed 1;slip 33");
        int[] wants = {10000, 6700, 4489, 3007, 2014};
        for (int n = 0; n <= 4; n++) {
            Edges.is("rounded down each time, of " + n, wants[n], x.odds(0, 0, n));
        }
        for (int wrong : new int[] {-1, 5, Integer.MIN_VALUE, Integer.MAX_VALUE}) {
            Edges.fails(Edges.NONE_SUCH, () -> x.odds(0, 0, wrong));
            Edges.fails(Edges.NO_SUCH, () -> x.odds(1, 0, wrong));
            Edges.fails(Edges.NO_SUCH, () -> x.odds(0, 1, wrong));
        }
    }

    private static void p43_slips0And100() {
        PencilUp x = Check.evening("word a often 1;writer speed 1;slip 0");
        Edges.is(10000, x.odds(0, 0, 4));
        Edges.more(x, "slip 100");
        Edges.is(10000, x.odds(0, 0, 0));
        Edges.is(0, x.odds(0, 0, 1));
        Edges.is(0, x.odds(0, 0, 4));
        Edges.more(x, "slip 99");
        int[] wants = {10000, 100, 1, 0, 0};
        for (int n = 0; n <= 4; n++) {
            Edges.is(wants[n], x.odds(0, 0, n));
        }
        Edges.more(x, "slip 1");
        Edges.is("9801.0, 9702.99, 9605.. each rounded down", 9604, x.odds(0, 0, 4));
    }

    private static void p43_ofThatWriterAndThatWord() {
        PencilUp x = Check.evening("word a often 1;word b often 1;writer speed 1;writer speed 1", "slip 10 if writer<1;slip 20 if word<1");
        Edges.is(7000, x.odds(0, 0, 1));
        Edges.is(9000, x.odds(0, 1, 1));
        Edges.is(8000, x.odds(1, 0, 1));
        Edges.is(10000, x.odds(1, 1, 1));
    }

    private static void p43_refusedChangesNothing() {
        for (int wrong : Edges.NOWHERE) {
            PencilUp x = Edges.rich();
            Edges.fails(Edges.NO_SUCH, () -> x.odds(wrong, 0, 1));
            Edges.fails(Edges.NO_SUCH, () -> x.odds(0, wrong, 1));
        }
        Edges.refused(Edges.NO_SUCH, x -> x.odds(3, 0, 1));
        Edges.refused(Edges.NO_SUCH, x -> x.odds(0, 4, 1));
        Edges.refused(Edges.NONE_SUCH, x -> x.odds(0, 0, -1));
        Edges.refused(Edges.NONE_SUCH, x -> x.odds(0, 0, 5));
    }

    // ---- 44, 45: the most ----

    private static void p44_noneWithoutWords() {
        Edges.is(PencilUp.NONE, Check.evening("writer speed 9 tired 9").oftenest(true));
        Edges.is(PencilUp.NONE, Check.evening("writer speed 9 tired 9").oftenest(false));
    }

    private static void p44_ofSeveralTheLeast() {
        PencilUp x = Check.evening("word a often 1;word bb often 1;word cc often 2;word d often 2");
        Edges.is(2, x.oftenest(true));
        Edges.is(1, x.oftenest(false));
        PencilUp y = Check.evening(EIGHT);
        Edges.is(0, y.oftenest(true));
        Edges.is(0, y.oftenest(false));
        y.often(7, 2);
        Edges.is(7, y.oftenest(true));
    }

    private static void p45_noneWithoutWriters() {
        Edges.is(PencilUp.NONE, Check.evening(EIGHT).quickest(true));
        Edges.is(PencilUp.NONE, Check.evening(EIGHT).quickest(false));
    }

    private static void p45_ofSeveralTheLeast() {
        PencilUp x = Check.evening("writer speed 1;writer speed 2;writer speed 2;writer speed 1;writer speed 1");
        Edges.is(1, x.quickest(true));
        Edges.is("nobody is tired", 0, x.quickest(false));
        PencilUp y = Check.evening("writer speed 1;writer speed 1 tired 98;writer speed 1;writer speed 1 tired 99;writer speed 1 tired 99");
        Edges.is(0, y.quickest(true));
        Edges.is(3, y.quickest(false));
        y.rest(3);
        Edges.is(4, y.quickest(false));
    }

    // ---- 46: twins ----

    private static void p46_noneAndAll() {
        Edges.is(0, new PencilUp().twins());
        Edges.is(0, Check.evening("word a often 1").twins());
        Edges.is(0, Check.evening(EIGHT).twins());
        Edges.is(28, Check.evening("word ab often 1;word ba often 1;".repeat(3) + "word ab often 1;word ba often 1").twins());
    }

    private static void p46_eachAsOftenInWhateverOrder() {
        Edges.is(1, Check.evening("word aabbcc often 1;word cbacba often 1").twins());
        Edges.is(0, Check.evening("word aabbcc often 1;word abbbcc often 1").twins());
        Edges.is(0, Check.evening("word aa often 1;word a often 1").twins());
        Edges.is(0, Check.evening("word hhhhhh often 1;word hhhhh often 1").twins());
    }

    private static void p46_manyOfOneLetterAreNoneOfAnother() {
        for (int first = 0; first < 48; first++) {
            for (int second = first + 1; second < 48; second++) {
                String text = "word " + oneLetter(first) + " often 1;word " + oneLetter(second) + " often 1";
                Edges.is(text, 0, Check.evening(text).twins());
            }
        }
        Edges.is(0, Check.evening("word agggg often 1;word a often 1;word bhhhh often 1;word bb often 1;word hhhha often 1;word ab often 1").twins());
    }

    /** One to six of one of the eight letters. */
    private static String oneLetter(int k) {
        return Character.toString((char) ('a' + k / 6)).repeat(1 + k % 6);
    }

    // ---- 47, 48: letters of words ----

    private static void p47_letter0To7() {
        PencilUp x = Check.evening(EIGHT);
        Edges.is(1, x.uses(0));
        Edges.is(128, x.uses(7));
        for (int wrong : Edges.NOWHERE) {
            Edges.fails(Edges.NO_SUCH, () -> x.uses(wrong));
        }
        Edges.refused(Edges.NO_SUCH, y -> y.uses(8));
        Edges.refused(Edges.NO_SUCH, y -> y.uses(-1));
        Edges.fails(Edges.NO_SUCH, () -> new PencilUp().uses(8));
    }

    private static void p47_noneAndAll() {
        Edges.is(0, new PencilUp().uses(7));
        PencilUp x = Check.evening("word abcdef often 1;".repeat(7) + "word fa often 1");
        Edges.is(255, x.uses(0));
        Edges.is(255, x.uses(5));
        Edges.is(127, x.uses(1));
        Edges.is(0, x.uses(6));
        Edges.is(0, x.uses(7));
    }

    private static void p48_allAndNone() {
        Edges.is(255, new PencilUp().silent());
        Edges.is(0, Check.evening(EIGHT).silent());
        Edges.is(0x7f, Check.evening("word h often 1").silent());
        Edges.is(0xc0, Check.evening("word abcdef often 1").silent());
        Edges.is(1, Check.evening("word bcdef often 1;word gh often 1").silent());
    }

    private static void p48_lettersLeftOutAreHadStill() {
        Edges.is(254, Check.evening("word a often 1;writer speed 1 leaves a").silent());
    }

    private static void p48_questionsChangeNothing() {
        Edges.changesNothing(x -> x.fluent() + (x.better(0, 1) ? 1 : 0) + x.change(0, 1) + x.chain(0, 1) + x.echo() + x.pages(0, 99)
            + x.pairs(-1) + x.pairs(0) + x.rests(0) + x.odds(0, 0, 4) + x.oftenest(true) + x.quickest(true) + x.twins() + x.uses(0)
            + x.silent() + x.led(0, true) + x.log(0, 0) + x.count(0) + x.fault());
    }
}
