/** Boundary cases of promises 18 to 25 and 49 to 58: acts, minutes ahead, the log, what is undone, the image, counts. */
public final class EdgesActsTest {
    // What is drawn first, modulo 100, from some seeds.
    private static final int[][] DRAWS = {{0, 0}, {1, 38}, {2, 8}, {3, 47}, {6, 26}, {194, 99}, {-1, 29}, {Integer.MIN_VALUE, 0},
        {Integer.MAX_VALUE, 29}};
    private static final String TWENTY = "speech 0 0 0 0 0 0;speech 0 0 0 0 0 0;speech 0 0 0 0 0 0;speech 0 0";

    public static void main(String[] args) {
        Edges.runAll(EdgesActsTest.class);
    }

    private static PencilUp full() {
        PencilUp x = Check.evening("word a often 1;word b often 1;word c often 1;word d often 1;word e often 1;word f often 1;"
            + "word g often 1;word h often 8");
        Edges.more(x, "writer speed 1;writer speed 2;writer speed 3;writer speed 4;writer speed 9");
        return x;
    }

    // ---- 18: minutes ----

    private static void p18_1To60() {
        PencilUp x = new PencilUp();
        Edges.is(0, x.minutes(1));
        Edges.is(1, x.count(8));
        Edges.is(0, x.minutes(60));
        Edges.is(61, x.count(8));
        for (int wrong : new int[] {0, 61, -1, Integer.MIN_VALUE, Integer.MAX_VALUE}) {
            Edges.fails(Edges.NONE_SUCH, () -> x.minutes(wrong));
        }
        Edges.is(61, x.count(8));
    }

    private static void p18_refusedChangesNothing() {
        Edges.refused(Edges.NONE_SUCH, x -> x.minutes(0));
        Edges.refused(Edges.NONE_SUCH, x -> x.minutes(61));
    }

    private static void p18_howManyWereSaidInThese() {
        PencilUp x = Check.evening("word a often 1;speech 0 0 0");
        Edges.is(2, x.minutes(2));
        Edges.is(1, x.minutes(2));
        Edges.is(0, x.minutes(60));
        Edges.is(3, x.count(5));
        x.speak(0);
        Edges.is(1, x.minutes(60));
        Edges.is(4, x.count(5));
    }

    private static void p18_all20InOneCall() {
        PencilUp x = Check.evening("word a often 1;writer speed 9 leaves a;" + TWENTY);
        Edges.is(20, x.minutes(60));
        Edges.is(20, x.count(5));
        Edges.is(60, x.count(8));
        Edges.is(1, x.page(0, 19));
    }

    private static void p18_minute9999AtMost() {
        PencilUp x = Check.evening("word a often 1;writer speed 9;minute 999;speech 0");
        x.minutes(1);
        x.speak(0);
        Edges.more(x, "minute 999");
        x.minutes(1);
        for (int k = 0; k < 149; k++) {
            x.minutes(60);
        }
        Edges.is(9940, x.count(8));
        x.minutes(58);
        Edges.is(9998, x.count(8));
        x.minutes(1);
        Edges.is(9999, x.count(8));
        x.minutes(1);
        Edges.is(9999, x.count(8));
        x.speak(0);
        Edges.is("words are said then, too", 1, x.minutes(60));
        Edges.is(9999, x.count(8));
        Edges.is(9999, x.log(0, 0));
        Edges.more(x, "minute 5");
        Edges.is("and it may be told again", 5, x.count(8));
    }

    private static void p18_tired0AtLeast() {
        PencilUp x = Check.evening("writer speed 1 tired 3;writer speed 1 tired 2;writer speed 1 tired 1;writer speed 1");
        x.minutes(1);
        int[] wants = {1, 0, 0, 0};
        for (int k = 0; k < 4; k++) {
            Edges.is(wants[k], x.writer(k, 3));
        }
    }

    private static void p18_tired0AtLeastWhenAWordIsMissed() {
        PencilUp x = Check.evening("word abcdef often 1;writer speed 1 tired 3;writer speed 1 tired 2;writer speed 1 tired 1;writer speed 1;speech 0;tempo 1");
        x.minutes(1);
        int[] wants = {1, 0, 0, 0};
        for (int k = 0; k < 4; k++) {
            Edges.is(0, x.page(k, 0));
            Edges.is(wants[k], x.writer(k, 3));
        }
    }

    private static void p18_tired99AtMost() {
        PencilUp x = Check.evening("word abcdef often 1;writer speed 9 tired 92;writer speed 9 tired 93;writer speed 9 tired 94;writer speed 9 tired 99;speech 0;tempo 9");
        x.minutes(1);
        int[] wants = {98, 99, 99, 99};
        for (int k = 0; k < 4; k++) {
            Edges.is(1, x.page(k, 0));
            Edges.is(wants[k], x.writer(k, 3));
        }
    }

    private static void p18_tiresByStrokesAndAllTireLinesThatHold() {
        PencilUp x = Check.evening("word abc often 1;writer speed 9;writer speed 9 leaves ab;writer speed 9 leaves abc;speech 0",
            "tire 4 if kept;tire 8 if strokes<2;tire 16 if 1<0;rest 32;slip 0");
        x.minutes(1);
        Edges.is(3 + 4, x.writer(0, 3));
        Edges.is(1 + 8, x.writer(1, 3));
        Edges.is(8, x.writer(2, 3));
    }

    private static void p18_whoSlipsTiresToo() {
        PencilUp x = Check.evening("word abc often 1;writer speed 9;speech 0;slip 100", "tire 4");
        x.minutes(1);
        Edges.is(2, x.page(0, 0));
        Edges.is(7, x.writer(0, 3));
    }

    private static void p18_restsBy2AndAllRestLinesOfTheWordMissed() {
        PencilUp x = Check.evening("word abcdef often 1;writer speed 1 tired 50;speech 0;tempo 1",
            "rest 1 if word<1;rest 4 if kept;rest 8 if strokes>5;rest 16 if word>7;tire 32");
        x.minutes(1);
        Edges.is(50 - 2 - 13, x.writer(0, 3));
    }

    private static void p18_whenAllIsSaidAWordOfNothing() {
        PencilUp x = Check.evening("word a often 1;writer speed 4 skill 2 tired 99 leaves h",
            "rest 1 if word>7 and word<9;rest 2 if strokes<1;rest 4 if letters<1;rest 8 if not kept;rest 16 if not sure"
            + ";rest 32 if kept or sure or strokes>0 or letters>0;rest 0 if speed<5");
        x.minutes(1);
        Edges.is(99 - 2 - 31, x.writer(0, 3));
        Edges.readLaw(x, "rest 1 if writer<1;rest 2 if speed>3 and speed<5;rest 4 if skill>1 and skill<3;rest 8 if tired>65 and tired<67");
        x.minutes(1);
        Edges.is("the writer's own are as they are", 66 - 2 - 15, x.writer(0, 3));
    }

    private static void p18_nothingOfTheLastWordStaysInAWordOfNothing() {
        PencilUp x = Check.evening("word abc often 1;writer speed 9;speech 0;tempo 9",
            "tire 90;rest 1 if strokes>0;rest 2 if letters>0;rest 4 if kept;rest 8 if sure;rest 16 if word<8");
        x.minutes(2);
        Edges.is(93 - 2, x.writer(0, 3));
        Edges.is(93 - 2 * 3, x.ahead(0, 2));
        x.keepsUp(0, 0);
        x.minutes(1);
        Edges.is(93 - 2 * 2, x.writer(0, 3));
    }

    private static void p18_aWordOfNothingIsWord8AlsoBesideEightWords() {
        PencilUp x = full();
        Edges.more(x, "minute 3;tempo 3");
        Edges.readLaw(x, "rest 9 if word>7 and not kept and not sure;rest 50 if word<8");
        x.speak(7);
        x.minutes(1);
        Edges.is(1, x.writer(0, 3));
        Edges.more(x, "tempo 3");
        PencilUp y = Check.evening("word a often 1;".repeat(8) + "writer speed 9 tired 99",
            "rest 9 if word>7 and not kept and not sure;rest 50 if word<8");
        y.minutes(1);
        Edges.is(99 - 11, y.writer(0, 3));
    }

    private static void p18_byAllAsItIsThen() {
        PencilUp x = Check.evening("word a often 1;writer speed 9 tired 9;speech 0 0 0", "tire 5 if tired>9;slip 99 if tired>10;slip 1 if tired>10");
        x.minutes(1);
        Edges.is(10, x.writer(0, 3));
        x.minutes(1);
        Edges.is("tired 10 as the word comes", 16, x.writer(0, 3));
        Edges.is("and not yet 11", 1, x.page(0, 1));
        x.minutes(1);
        Edges.is(2, x.page(0, 2));
    }

    private static void p18_slippedIfTheDrawIsBelowSlips() {
        for (int[] row : DRAWS) {
            PencilUp x = Check.evening("word a often 1;writer speed 9;speech 0 0;slip " + row[1]);
            x.seed(row[0]);
            x.minutes(1);
            Edges.is("slip as much as the draw of " + row[0], 1, x.page(0, 0));
            PencilUp y = Check.evening("word a often 1;writer speed 9;speech 0 0;slip " + (row[1] + 1));
            y.seed(row[0]);
            y.minutes(1);
            Edges.is("slip one more than the draw of " + row[0], 2, y.page(0, 0));
        }
    }

    private static void p18_seedGoesRoundAsAnInt() {
        int[][] seeds = {{0, 12345}, {1, 1103527590}, {2, -2087924461}, {-1, -1103502900}, {Integer.MAX_VALUE, 1043980748},
            {Integer.MIN_VALUE, -2147471303}};
        for (int[] seed : seeds) {
            PencilUp x = Check.evening("word a often 1;writer speed 9;speech 0");
            x.seed(seed[0]);
            x.minutes(1);
            Edges.is(seed[1], x.seed(0));
        }
    }

    private static void p18_oneDrawOfEachThatKeepsUpAlways() {
        PencilUp x = Check.evening("word a often 1;writer speed 9;speech 0;slip 0");
        x.minutes(1);
        Edges.is("also where nobody can slip", 1103527590, x.seed(1));
        x.minutes(1);
        Edges.is("none when all is said", 1, x.seed(1));
        PencilUp y = Check.evening("word ab often 1;writer speed 1;writer speed 2;speech 0;tempo 1;slip 100");
        y.minutes(1);
        Edges.is("none of one who misses", 1103527590, y.seed(1));
    }

    private static void p18_drawsGoByWriters() {
        // Seed 1 draws 38, 58, 13.
        PencilUp x = Check.evening("word ab often 1;writer speed 2;writer speed 1;writer speed 2;writer speed 2;speech 0;tempo 1;slip 50");
        x.minutes(1);
        int[] wants = {2, 0, 1, 2};
        for (int k = 0; k < 4; k++) {
            Edges.is(wants[k], x.page(k, 0));
        }
    }

    private static void p18_wordsAreSaidWithoutWriters() {
        PencilUp x = Check.evening("word a often 1;speech 0 0");
        Edges.is(1, x.minutes(1));
        Edges.is(1, x.count(5));
        Edges.is(0, x.count(10));
        Edges.is(1, x.seed(1));
    }

    // ---- 19: speak ----

    private static void p19_20AndNoMore() {
        PencilUp x = full();
        for (int k = 1; k <= 19; k++) {
            Edges.is(k, x.speak(0));
        }
        Edges.is(20, x.speak(7));
        Edges.is(7, x.speech(19));
        Edges.fails(Edges.CANNOT_BE, () -> x.speak(0));
        Edges.fails(Edges.CANNOT_BE, () -> x.speak(7));
        Edges.is(20, x.count(4));
        x.undo();
        Edges.is("one undone has room again", 20, x.speak(6));
    }

    private static void p19_saidWordsTakeRoomToo() {
        PencilUp x = Check.evening("word a often 1;" + TWENTY);
        x.minutes(20);
        Edges.fails(Edges.CANNOT_BE, () -> x.speak(0));
    }

    private static void p19_noSuchWordIsToldFirst() {
        PencilUp x = Check.evening("word a often 1;" + TWENTY);
        Edges.fails(Edges.NO_SUCH, () -> x.speak(1));
        Edges.fails(Edges.NO_SUCH, () -> x.speak(-1));
        PencilUp y = full();
        for (int wrong : Edges.NOWHERE) {
            Edges.fails(Edges.NO_SUCH, () -> y.speak(wrong));
        }
        Edges.is(0, y.count(4));
    }

    private static void p19_refusedChangesNothing() {
        Edges.refused(Edges.NO_SUCH, x -> x.speak(4));
        Edges.refused(Edges.NO_SUCH, x -> x.speak(-1));
        Edges.Made made = () -> {
            PencilUp x = Check.evening("word a often 1;writer speed 9;" + TWENTY.substring(0, TWENTY.length() - 2));
            x.image();
            x.speak(0);
            x.minutes(2);
            return x;
        };
        Edges.refused(Edges.CANNOT_BE, made, x -> x.speak(0));
    }

    // ---- 20: leave ----

    private static void p20_theFirstAndTheLastLetter() {
        PencilUp x = full();
        Edges.is(true, x.leave(0, 0, true));
        Edges.is(true, x.leave(4, 7, true));
        Edges.is(1, x.writer(0, 0));
        Edges.is(128, x.writer(4, 0));
        Edges.is(0, x.writer(1, 0));
        for (int wrong : Edges.NOWHERE) {
            Edges.fails(Edges.NO_SUCH, () -> x.leave(0, wrong, true) ? 1 : 0);
            Edges.fails(Edges.NO_SUCH, () -> x.leave(0, wrong, false) ? 1 : 0);
            Edges.fails(Edges.NO_SUCH, () -> x.leave(wrong, 0, true) ? 1 : 0);
        }
        Edges.fails(Edges.NO_SUCH, () -> x.leave(5, 0, true) ? 1 : 0);
    }

    private static void p20_whetherThatChanged() {
        PencilUp x = full();
        Edges.is(false, x.leave(2, 3, false));
        Edges.is(0, x.writer(2, 0));
        Edges.is(true, x.leave(2, 3, true));
        Edges.is(false, x.leave(2, 3, true));
        Edges.is(8, x.writer(2, 0));
        Edges.is(true, x.leave(2, 3, false));
        Edges.is(false, x.leave(2, 3, false));
        Edges.is(0, x.writer(2, 0));
    }

    private static void p20_allEightAndNone() {
        PencilUp x = full();
        for (int letter = 0; letter < 8; letter++) {
            Edges.is(true, x.leave(1, letter, true));
        }
        Edges.is(255, x.writer(1, 0));
        for (int letter = 0; letter < 8; letter++) {
            Edges.is(true, x.leave(1, letter, false));
            Edges.is(255 & ~((2 << letter) - 1), x.writer(1, 0));
        }
    }

    private static void p20_refusedChangesNothing() {
        Edges.refused(Edges.NO_SUCH, x -> x.leave(3, 0, true) ? 1 : 0);
        Edges.refused(Edges.NO_SUCH, x -> x.leave(0, 8, true) ? 1 : 0);
        Edges.refused(Edges.NO_SUCH, x -> x.leave(0, -1, false) ? 1 : 0);
    }

    // ---- 21: learn ----

    private static void p21_9AtMost() {
        PencilUp x = Check.evening("writer speed 1;writer speed 1 skill 8");
        Edges.is(1, x.learn(0));
        Edges.is(9, x.learn(1));
        Edges.is(9, x.learn(1));
        Edges.is(9, x.writer(1, 2));
        Edges.is(1, x.writer(0, 2));
    }

    private static void p21_at9ItIsAnActToo() {
        PencilUp x = Check.evening("writer speed 1 skill 9");
        x.learn(0);
        Edges.is(1, x.count(11));
        Edges.is(true, x.undo());
        Edges.is(9, x.writer(0, 2));
    }

    private static void p21_noSuchWriter() {
        PencilUp x = full();
        Edges.is(1, x.learn(4));
        Edges.fails(Edges.NO_SUCH, () -> x.learn(5));
        for (int wrong : Edges.NOWHERE) {
            Edges.fails(Edges.NO_SUCH, () -> x.learn(wrong));
        }
        Edges.refused(Edges.NO_SUCH, y -> y.learn(3));
    }

    // ---- 22: rest ----

    private static void p22_tiredThatItWas() {
        PencilUp x = Check.evening("writer speed 1 tired 99;writer speed 1 tired 5");
        Edges.is(99, x.rest(0));
        Edges.is(0, x.writer(0, 3));
        Edges.is(5, x.writer(1, 3));
        Edges.is(0, x.rest(0));
        Edges.is(0, x.writer(0, 3));
    }

    private static void p22_noSuchWriter() {
        PencilUp x = full();
        Edges.is(0, x.rest(4));
        Edges.fails(Edges.NO_SUCH, () -> x.rest(5));
        for (int wrong : Edges.NOWHERE) {
            Edges.fails(Edges.NO_SUCH, () -> x.rest(wrong));
        }
        Edges.refused(Edges.NO_SUCH, y -> y.rest(3));
    }

    // ---- 23: often ----

    private static void p23_1To99() {
        PencilUp x = full();
        Edges.is(8, x.often(7, 1));
        Edges.is(1, x.often(7, 99));
        Edges.is(99, x.word(7, 1));
        for (int wrong : new int[] {0, 100, -1, Integer.MIN_VALUE, Integer.MAX_VALUE}) {
            Edges.fails(Edges.NONE_SUCH, () -> x.often(7, wrong));
        }
        Edges.is(99, x.word(7, 1));
        Edges.is(1, x.word(6, 1));
    }

    private static void p23_noSuchWordIsToldFirst() {
        PencilUp x = full();
        for (int wrong : Edges.NOWHERE) {
            Edges.fails(Edges.NO_SUCH, () -> x.often(wrong, 5));
            Edges.fails(Edges.NO_SUCH, () -> x.often(wrong, 0));
            Edges.fails(Edges.NO_SUCH, () -> x.often(wrong, 100));
        }
    }

    private static void p23_refusedChangesNothing() {
        Edges.refused(Edges.NO_SUCH, x -> x.often(4, 5));
        Edges.refused(Edges.NONE_SUCH, x -> x.often(0, 0));
        Edges.refused(Edges.NONE_SUCH, x -> x.often(0, 100));
    }

    // ---- 24: tempo ----

    private static void p24_1To9() {
        PencilUp x = new PencilUp();
        Edges.is(3, x.tempo(1));
        Edges.is(1, x.tempo(9));
        Edges.is(9, x.count(6));
        for (int wrong : new int[] {0, 10, -1, Integer.MIN_VALUE, Integer.MAX_VALUE}) {
            Edges.fails(Edges.NONE_SUCH, () -> x.tempo(wrong));
        }
        Edges.is(9, x.count(6));
        Edges.refused(Edges.NONE_SUCH, y -> y.tempo(0));
        Edges.refused(Edges.NONE_SUCH, y -> y.tempo(10));
    }

    // ---- 25: speed ----

    private static void p25_1To9() {
        PencilUp x = full();
        Edges.is(9, x.speed(4, 1));
        Edges.is(1, x.speed(4, 9));
        Edges.is(9, x.writer(4, 1));
        for (int wrong : new int[] {0, 10, -1, Integer.MIN_VALUE, Integer.MAX_VALUE}) {
            Edges.fails(Edges.NONE_SUCH, () -> x.speed(4, wrong));
        }
        Edges.is(9, x.writer(4, 1));
        Edges.is(4, x.writer(3, 1));
    }

    private static void p25_noSuchWriterIsToldFirst() {
        PencilUp x = full();
        Edges.fails(Edges.NO_SUCH, () -> x.speed(5, 5));
        for (int wrong : Edges.NOWHERE) {
            Edges.fails(Edges.NO_SUCH, () -> x.speed(wrong, 0));
            Edges.fails(Edges.NO_SUCH, () -> x.speed(wrong, 10));
        }
        Edges.refused(Edges.NO_SUCH, y -> y.speed(3, 5));
        Edges.refused(Edges.NONE_SUCH, y -> y.speed(0, 0));
        Edges.refused(Edges.NONE_SUCH, y -> y.speed(0, 10));
    }

    // ---- 49: ahead ----

    private static void p49_0To60() {
        PencilUp x = Check.evening("word ab often 1;writer speed 9 tired 50;writer speed 9;speech 0 0 0");
        Edges.is(50, x.ahead(0, 0));
        Edges.is(52, x.ahead(0, 1));
        Edges.is(56, x.ahead(0, 3));
        Edges.is("rests by 2 from there on", 54, x.ahead(0, 4));
        Edges.is(2, x.ahead(0, 30));
        Edges.is(0, x.ahead(0, 31));
        Edges.is(0, x.ahead(0, 60));
        Edges.is(6, x.ahead(1, 3));
        for (int wrong : new int[] {-1, 61, Integer.MIN_VALUE, Integer.MAX_VALUE}) {
            Edges.fails(Edges.NONE_SUCH, () -> x.ahead(0, wrong));
            Edges.fails(Edges.NO_SUCH, () -> x.ahead(2, wrong));
            Edges.fails(Edges.NO_SUCH, () -> x.ahead(-1, wrong));
        }
        Edges.is(112 - 4 * 28, x.ahead(0, 59));
    }

    private static void p49_asSoManyMinutes() {
        for (int n : new int[] {0, 1, 19, 20, 21, 59, 60}) {
            PencilUp x = Check.evening("word abcdef often 1;writer speed 9;writer speed 4;" + TWENTY + ";tempo 2;slip 50", "tire 40 if tired<9");
            int[] wants = {x.ahead(0, n), x.ahead(1, n)};
            if (n > 0) {
                x.minutes(n);
            }
            Edges.is("ahead by " + n, x.writer(0, 3), wants[0]);
            Edges.is("ahead by " + n, x.writer(1, 3), wants[1]);
        }
    }

    private static void p49_the60thMinuteCounts() {
        PencilUp x = Check.evening("word abcdef often 1;writer speed 9;" + TWENTY + ";tempo 9", "tire 99");
        Edges.is(99, x.ahead(0, 1));
        Edges.is(99, x.ahead(0, 20));
        Edges.is(97, x.ahead(0, 21));
        Edges.is(99 - 2 * 39, x.ahead(0, 59));
        Edges.is(99 - 2 * 40, x.ahead(0, 60));
    }

    private static void p49_nobodySlipsAndNothingStays() {
        Edges.changesNothing(x -> x.ahead(0, 60));
        PencilUp x = Check.evening("word a often 1;writer speed 9;speech 0;slip 100");
        Edges.is(1, x.ahead(0, 1));
        Edges.is(1, x.seed(1));
        Edges.is(PencilUp.NONE, x.page(0, 0));
        Edges.is(0, x.count(8));
    }

    private static void p49_refusedChangesNothing() {
        Edges.refused(Edges.NO_SUCH, x -> x.ahead(3, 0));
        Edges.refused(Edges.NONE_SUCH, x -> x.ahead(0, -1));
        Edges.refused(Edges.NONE_SUCH, x -> x.ahead(0, 61));
    }

    // ---- 50: trial ----

    private static void p50_0To60() {
        PencilUp x = Check.evening("word a often 1;writer speed 9 tired 5;writer speed 9 tired 6;" + TWENTY);
        Edges.is(0, x.trial(0, false));
        Edges.is(11, x.trial(0, true));
        Edges.is(2, x.trial(1, false));
        Edges.is(13, x.trial(1, true));
        Edges.is(40, x.trial(20, false));
        Edges.is(40, x.trial(60, false));
        Edges.is(51, x.trial(20, true));
        Edges.is("rests by 2 each", 47, x.trial(21, true));
        Edges.is(0, x.trial(60, true));
        for (int wrong : new int[] {-1, 61, Integer.MIN_VALUE, Integer.MAX_VALUE}) {
            Edges.fails(Edges.NONE_SUCH, () -> x.trial(wrong, true));
            Edges.fails(Edges.NONE_SUCH, () -> x.trial(wrong, false));
        }
    }

    private static void p50_withoutWriters() {
        PencilUp x = Check.evening("word a often 1;speech 0");
        Edges.is(0, x.trial(60, false));
        Edges.is(0, x.trial(60, true));
    }

    private static void p50_drawsFromSeedAsItIs() {
        PencilUp x = Check.evening("word a often 1;writer speed 9;speech 0 0;slip 38");
        // Seed 1 draws 38 and 58, seed 2 draws 8 and 17, seed 3 draws 47 and 7.
        Edges.is(2, x.trial(2, false));
        x.seed(2);
        Edges.is(0, x.trial(2, false));
        Edges.is("the same again", 0, x.trial(2, false));
        x.seed(3);
        Edges.is(1, x.trial(2, false));
        Edges.is(3, x.seed(3));
    }

    private static void p50_ofAllAlsoWhatWasWrittenAhead() {
        PencilUp x = Check.evening("word a often 1;writer speed 9;speech 0 0");
        x.minutes(1);
        Edges.is(1, x.trial(0, false));
        Edges.is(2, x.trial(1, false));
    }

    private static void p50_nothingStays() {
        Edges.changesNothing(x -> x.trial(60, false));
        Edges.changesNothing(x -> x.trial(60, true));
        Edges.refused(Edges.NONE_SUCH, x -> x.trial(-1, false));
        Edges.refused(Edges.NONE_SUCH, x -> x.trial(61, true));
    }

    // ---- 51: span ----

    private static void p51_0To60() {
        PencilUp x = Check.evening("word a often 1;writer speed 9;writer speed 9;" + TWENTY + ";slip 100");
        Edges.is(0, x.span(0, true));
        Edges.is(0, x.span(0, false));
        Edges.is(2, x.span(1, true));
        Edges.is(2, x.span(1, false));
        Edges.is(40, x.span(20, true));
        Edges.is(40, x.span(60, false));
        for (int wrong : new int[] {-1, 61, Integer.MIN_VALUE, Integer.MAX_VALUE}) {
            Edges.fails(Edges.NONE_SUCH, () -> x.span(wrong, true));
            Edges.fails(Edges.NONE_SUCH, () -> x.span(wrong, false));
        }
    }

    private static void p51_allFiveSlipIn20Words() {
        PencilUp x = Check.evening("word a often 1;writer speed 9;writer speed 9;writer speed 9;writer speed 9;writer speed 9;" + TWENTY + ";slip 100");
        Edges.is(100, x.span(20, false));
        Edges.is(100, x.span(20, true));
        x.minutes(20);
        Edges.is(100, x.span(0, false));
    }

    private static void p51_withoutWriters() {
        PencilUp x = Check.evening("word a often 1;speech 0");
        Edges.is(0, x.span(60, true));
        Edges.is(0, x.span(60, false));
    }

    private static PencilUp slipping(int slip) {
        PencilUp x = Check.evening("word a often 1;writer speed 9;speech 0;slip " + slip);
        x.seed(0);
        return x;
    }

    private static void p51_seeds1To6AndNotTheSeedThatIs() {
        // Seeds 0 to 7 draw 0, 38, 8, 47, 17, 55, 26, 64 first.
        Edges.is("0 is not among them", 0, slipping(8).span(1, true));
        Edges.is(1, slipping(9).span(1, true));
        Edges.is(0, slipping(9).span(1, false));
        Edges.is(0, slipping(55).span(1, false));
        Edges.is("7 is not among them", 1, slipping(56).span(1, false));
        Edges.is(1, slipping(56).span(1, true));
    }

    private static void p51_seed1IsAmongThem() {
        // The third draws are 13, 39, 65, 91, 16, 42.
        PencilUp x = Check.evening("word a often 1;word b often 1;word c often 1;writer speed 9;speech 0 1 2", "slip 14 if word>1");
        Edges.is(1, x.span(3, true));
        Edges.readLaw(x, "slip 13 if word>1");
        Edges.is(0, x.span(3, true));
    }

    private static void p51_seed6IsAmongThem() {
        // The second draws are 58, 17, 7, 66, 57, 15: below 27, then below 16, is seed 6 alone.
        PencilUp x = Check.evening("word a often 1;word b often 1;writer speed 9;speech 0 1", "slip 27 if word<1;slip 16 if word>0");
        Edges.is(2, x.span(2, true));
        Edges.is(0, x.span(2, false));
        Edges.readLaw(x, "slip 27 if word<1;slip 15 if word>0");
        Edges.is(1, x.span(2, true));
    }

    private static void p51_nothingStays() {
        Edges.changesNothing(x -> x.span(60, false));
        Edges.changesNothing(x -> x.span(60, true));
        Edges.refused(Edges.NONE_SUCH, x -> x.span(-1, false));
        Edges.refused(Edges.NONE_SUCH, x -> x.span(61, true));
    }

    // ---- 52: led ----

    private static void p52_noneYet() {
        PencilUp x = full();
        Edges.is(0, x.led(4, false));
        Edges.is(PencilUp.NONE, x.led(4, true));
        x.minutes(5);
        Edges.is("minutes without a word leave no row", 0, x.led(4, false));
        Edges.is(PencilUp.NONE, x.led(4, true));
        x.speak(0);
        x.minutes(5);
        Edges.is(1, x.led(4, false));
        Edges.is(5, x.led(4, true));
    }

    private static void p52_minute0IsNotNone() {
        PencilUp x = Check.evening("word a often 1;writer speed 1;speech 0");
        x.minutes(1);
        Edges.is(0, x.led(0, true));
    }

    private static void p52_rowsThatFellOutAreNotCounted() {
        PencilUp x = Check.evening("word a often 1;writer speed 1;" + TWENTY);
        x.minutes(3);
        Edges.more(x, "writer speed 1;writer speed 1;writer speed 1");
        Edges.is(3, x.led(0, false));
        Edges.is(0, x.led(3, false));
        Edges.is(PencilUp.NONE, x.led(3, true));
        x.minutes(14);
        // 3 and 14 times 4 are 59.
        Edges.is(59, x.count(10));
        Edges.is(17, x.led(0, false));
        x.minutes(1);
        Edges.is(60, x.count(10));
        Edges.is("three of its fell out", 15, x.led(0, false));
        Edges.is(15, x.led(3, false));
        Edges.is(17, x.led(0, true));
    }

    private static void p52_noSuchWriter() {
        PencilUp x = full();
        Edges.fails(Edges.NO_SUCH, () -> x.led(5, true));
        for (int wrong : Edges.NOWHERE) {
            Edges.fails(Edges.NO_SUCH, () -> x.led(wrong, true));
            Edges.fails(Edges.NO_SUCH, () -> x.led(wrong, false));
        }
        Edges.refused(Edges.NO_SUCH, y -> y.led(3, true));
    }

    // ---- 53: log ----

    private static void p53_noneYet() {
        PencilUp x = full();
        for (int what = 0; what < 4; what++) {
            Edges.is(PencilUp.NONE, x.log(0, what));
            Edges.is(PencilUp.NONE, x.log(-1, what));
        }
    }

    private static void p53_what0To3() {
        PencilUp x = full();
        x.speak(7);
        x.minutes(1);
        int[] wants = {0, 4, 7, 1};
        for (int what = 0; what < 4; what++) {
            Edges.is(wants[what], x.log(0, what));
        }
        for (int wrong : new int[] {-1, 4, Integer.MIN_VALUE, Integer.MAX_VALUE}) {
            Edges.fails(Edges.NO_WHAT, () -> x.log(0, wrong));
            Edges.fails(Edges.NO_WHAT, () -> x.log(99, wrong));
            Edges.fails(Edges.NO_WHAT, () -> x.log(-1, wrong));
        }
        Edges.refused(Edges.NO_WHAT, y -> y.log(0, 4));
        Edges.refused(Edges.NO_WHAT, y -> y.log(0, -1));
    }

    private static void p53_theLatestIsOfTheGreatestWriter() {
        PencilUp x = full();
        x.speak(3);
        x.minutes(1);
        for (int ago = 0; ago < 5; ago++) {
            Edges.is(4 - ago, x.log(ago, 1));
        }
        Edges.is(PencilUp.NONE, x.log(5, 1));
        Edges.is(PencilUp.NONE, x.log(-1, 1));
        Edges.is(PencilUp.NONE, x.log(Integer.MAX_VALUE, 1));
        Edges.is(PencilUp.NONE, x.log(Integer.MIN_VALUE, 1));
    }

    private static void p53_60RowsAndTheOldestFallsOut() {
        PencilUp x = Check.evening("word a often 1;word b often 1;writer speed 9;writer speed 9;writer speed 9;writer speed 9;writer speed 9;minute 100;speech 0 1 1 1 1 1");
        Edges.more(x, "speech 1 1 1 1 1 1");
        x.minutes(12);
        Edges.is(60, x.count(10));
        Edges.is(0, x.log(59, 2));
        Edges.is(100, x.log(59, 0));
        Edges.is(0, x.log(59, 1));
        Edges.is(PencilUp.NONE, x.log(60, 0));
        x.speak(0);
        x.minutes(1);
        Edges.is(60, x.count(10));
        Edges.is("the first minute's five fell out", 101, x.log(59, 0));
        Edges.is(0, x.log(59, 1));
        Edges.is(112, x.log(0, 0));
        Edges.is(4, x.log(0, 1));
        Edges.is(0, x.log(0, 2));
        Edges.is(111, x.log(5, 0));
        Edges.is(PencilUp.NONE, x.log(60, 0));
    }

    private static void p53_missedWrittenAndSlipped() {
        PencilUp x = Check.evening("word ab often 1;writer speed 1;writer speed 9 skill 9;writer speed 9;speech 0;tempo 1;slip 45", "slip 55 if skill<1");
        x.minutes(1);
        Edges.is(2, x.log(0, 3));
        Edges.is(1, x.log(1, 3));
        Edges.is(0, x.log(2, 3));
    }

    private static void p53_theMinuteInWhichItWasSaid() {
        PencilUp x = Check.evening("word a often 1;writer speed 1;speech 0 0;minute 999");
        x.minutes(2);
        Edges.is(1000, x.log(0, 0));
        Edges.is(999, x.log(1, 0));
    }

    // ---- 54: seed ----

    private static void p54_anyInt() {
        PencilUp x = new PencilUp();
        Edges.is(1, x.seed(Integer.MAX_VALUE));
        Edges.is(Integer.MAX_VALUE, x.seed(Integer.MIN_VALUE));
        Edges.is(Integer.MIN_VALUE, x.seed(0));
        Edges.is(0, x.seed(-1));
        Edges.is(-1, x.seed(-1));
    }

    private static void p54_itIsNoAct() {
        PencilUp x = new PencilUp();
        x.seed(5);
        Edges.is(0, x.count(11));
        Edges.is(false, x.undo());
        Edges.is(5, x.seed(5));
        x.tempo(4);
        x.seed(9);
        Edges.is(1, x.count(11));
        x.undo();
        Edges.is("as ahead of the act", 5, x.seed(5));
    }

    // ---- 55: undo ----

    private static void p55_falseWithoutOneAndNothingHappens() {
        Edges.Made made = () -> {
            PencilUp x = Edges.rich();
            for (int k = 0; k < Edges.RICH_ACTS; k++) {
                x.undo();
            }
            return x;
        };
        Edges.is(0, made.make().count(11));
        Edges.is(false, made.make().undo());
        Edges.changesNothing(made, x -> x.undo() ? 1 : 0);
    }

    private static void p55_eachActAndAllAsAheadOfIt() {
        Edges.On[] acts = {x -> x.minutes(1), x -> x.minutes(60), x -> x.speak(0), x -> x.leave(1, 4, true) ? 1 : 0,
            x -> x.leave(0, 0, false) ? 1 : 0, x -> x.learn(0), x -> x.learn(2), x -> x.rest(2), x -> x.often(3, 99), x -> x.tempo(9),
            x -> x.speed(1, 9)};
        for (Edges.On act : acts) {
            PencilUp x = Edges.rich();
            act.answer(x);
            Edges.is(Edges.RICH_ACTS + 1, x.count(11));
            Edges.is(true, x.undo());
            Edges.same(Edges.rich(), x, true);
        }
    }

    private static void p55_anActThatChangesNothingIsOne() {
        Edges.On[] acts = {x -> x.leave(0, 0, true) ? 1 : 0, x -> x.leave(1, 4, false) ? 1 : 0, x -> x.often(0, 10), x -> x.tempo(2),
            x -> x.speed(0, 2)};
        for (Edges.On act : acts) {
            PencilUp x = Edges.rich();
            act.answer(x);
            Edges.is(Edges.RICH_ACTS + 1, x.count(11));
            x.undo();
            Edges.same(Edges.rich(), x, true);
        }
    }

    private static void p55_twelveAreRememberedAndNotA13th() {
        for (int acts = 11; acts <= 14; acts++) {
            PencilUp x = Check.evening("word a often 50");
            for (int k = 1; k <= acts; k++) {
                x.often(0, k);
                Edges.is(Math.min(k, 12), x.count(11));
            }
            int remembered = Math.min(acts, 12);
            for (int k = 1; k <= remembered; k++) {
                Edges.is(true, x.undo());
                Edges.is(remembered - k, x.count(11));
            }
            Edges.is(false, x.undo());
            Edges.is("left of " + acts, acts <= 12 ? 50 : acts - 12, x.word(0, 1));
        }
    }

    private static void p55_theRowOfTwelveGoesRoundManyTimes() {
        PencilUp x = Check.evening("word a often 1");
        for (int k = 1; k <= 40; k++) {
            x.often(0, k);
        }
        Edges.is(12, x.count(11));
        for (int k = 39; k >= 34; k--) {
            Edges.is(true, x.undo());
            Edges.is(k, x.word(0, 1));
        }
        for (int k = 71; k <= 79; k++) {
            x.often(0, k);
        }
        Edges.is(12, x.count(11));
        int[] wants = {78, 77, 76, 75, 74, 73, 72, 71, 34, 33, 32, 31};
        for (int want : wants) {
            Edges.is(true, x.undo());
            Edges.is(want, x.word(0, 1));
        }
        Edges.is(false, x.undo());
        Edges.is(31, x.word(0, 1));
    }

    private static void p55_minutesOfOneCallAreOne() {
        PencilUp x = Check.evening("word a often 1;writer speed 9;speech 0 0 0;minute 7");
        x.minutes(60);
        Edges.is(1, x.count(11));
        Edges.is(true, x.undo());
        Edges.is(7, x.count(8));
        Edges.is(0, x.count(5));
        Edges.is(0, x.count(10));
        Edges.is(0, x.writer(0, 3));
        Edges.is(1, x.seed(1));
        Edges.is(PencilUp.NONE, x.page(0, 0));
        Edges.is(false, x.undo());
    }

    private static void p55_theLogsOldestRowsComeBack() {
        PencilUp x = Check.evening("word a often 1;writer speed 9;writer speed 9;writer speed 9;writer speed 9;writer speed 9;" + TWENTY);
        x.minutes(12);
        x.minutes(8);
        Edges.is(8, x.log(59, 0));
        x.undo();
        Edges.is(0, x.log(59, 0));
        Edges.is(11, x.log(0, 0));
        Edges.is(60, x.count(10));
    }

    private static void p55_behindATextNoneAreRemembered() {
        PencilUp x = new PencilUp();
        x.tempo(5);
        x.evening();
        Edges.is(0, x.count(11));
        Edges.is(false, x.undo());
        Edges.is(5, x.count(6));
        x.tempo(6);
        x.law();
        Edges.is(0, x.count(11));
        Edges.is(false, x.undo());
        Edges.is(6, x.count(6));
    }

    private static void p55_behindGoingBackNoneAreRemembered() {
        PencilUp x = new PencilUp();
        x.tempo(5);
        x.image();
        x.tempo(6);
        Edges.is(2, x.count(11));
        x.back();
        Edges.is(0, x.count(11));
        Edges.is(false, x.undo());
        Edges.is(5, x.count(6));
    }

    private static void p55_behindAWrongTextTheyAreStill() {
        PencilUp x = new PencilUp();
        x.tempo(5);
        Edges.wrongEvening(x, "^x");
        Check.tell(x, "x");
        Edges.fails(Edges.NONE_SUCH, () -> x.law());
        Edges.is(1, x.count(11));
        Edges.is(true, x.undo());
        Edges.is(3, x.count(6));
    }

    private static void p55_butForTheTapeTheFaultAndTheImage() {
        PencilUp x = new PencilUp();
        x.tempo(5);
        Edges.wrongEvening(x, "slip ^x");
        x.image();
        x.feed(0, 0, 0, 0, 0);
        Edges.is(true, x.undo());
        Edges.is(3, x.count(6));
        Edges.is(5, x.fault());
        Edges.is(40, x.feed(0, 0, 0, 0, 0));
        Edges.is(true, x.back());
        Edges.is(5, x.count(6));
    }

    private static void p55_anotherActBehindOneUndone() {
        PencilUp x = new PencilUp();
        x.tempo(5);
        x.tempo(6);
        x.undo();
        x.tempo(7);
        Edges.is(2, x.count(11));
        x.undo();
        Edges.is(5, x.count(6));
        x.undo();
        Edges.is(3, x.count(6));
        Edges.is(false, x.undo());
    }

    // ---- 56: image ----

    private static void p56_ofANewObject() {
        PencilUp x = new PencilUp();
        x.image();
        Edges.more(x, "word a often 1;writer speed 1;tempo 9");
        x.law();
        Edges.is(true, x.back());
        Edges.is(0, x.count(0));
        Edges.is(0, x.count(1));
        Edges.is(0, x.count(2));
        Edges.is(PencilUp.NONE, x.count(3));
        Edges.is(3, x.count(6));
    }

    private static void p56_oneAloneInPlaceOfTheOneBefore() {
        PencilUp x = new PencilUp();
        x.tempo(1);
        x.image();
        x.tempo(2);
        x.image();
        x.tempo(3);
        Edges.is(true, x.back());
        Edges.is(2, x.count(6));
        Edges.is(true, x.back());
        Edges.is(2, x.count(6));
    }

    private static void p56_itIsNoActAndChangesNothingElse() {
        PencilUp x = Edges.rich();
        x.image();
        Edges.is(Edges.RICH_ACTS, x.count(11));
        Edges.is(6, x.fault());
        PencilUp y = Edges.rich();
        y.image();
        x.image();
        Edges.same(y, x, true);
    }

    private static void p56_laterChangesLeaveIt() {
        PencilUp x = Check.evening("word a often 1;writer speed 9;speech 0 0", "slip 5");
        x.image();
        x.minutes(1);
        x.often(0, 9);
        x.leave(0, 0, true);
        x.learn(0);
        x.speed(0, 1);
        x.speak(0);
        Edges.readLaw(x, "slip 6");
        x.back();
        Edges.is(1, x.word(0, 1));
        Edges.is(0, x.writer(0, 0));
        Edges.is(9, x.writer(0, 1));
        Edges.is(0, x.writer(0, 2));
        Edges.is(0, x.writer(0, 3));
        Edges.is(2, x.count(4));
        Edges.is(0, x.count(5));
        Edges.is(0, x.count(8));
        Edges.is(0, x.count(10));
        Edges.is(5, x.slips(0, 0));
        Edges.is(1, x.seed(1));
    }

    // ---- 57: back ----

    private static void p57_falseWithoutOneAndNothingHappens() {
        Edges.Made made = () -> {
            PencilUp x = Check.evening("word a often 1;writer speed 9;speech 0 0");
            x.minutes(1);
            x.tempo(5);
            x.feed(0, 0, 0, 0, 0);
            return x;
        };
        Edges.is(false, made.make().back());
        Edges.changesNothing(made, x -> x.back() ? 1 : 0);
        Edges.is(false, new PencilUp().back());
    }

    private static void p57_butForTheTapeAndTheFault() {
        PencilUp x = new PencilUp();
        x.image();
        Edges.wrongEvening(x, "slip ^x");
        x.feed(0, 0, 0, 0, 0);
        Edges.is(true, x.back());
        Edges.is(5, x.fault());
        Edges.is(40, x.feed(0, 0, 0, 0, 0));
    }

    private static void p57_textsCountAgainFromThere() {
        PencilUp x = new PencilUp();
        x.evening();
        x.image();
        for (int k = 2; k <= 12; k++) {
            Edges.is(k, x.evening());
        }
        Edges.fails(Edges.NO_MORE, () -> x.evening());
        x.back();
        Edges.is(1, x.count(2));
        Edges.is(2, x.evening());
    }

    private static void p57_theImageStaysAndMayBeGoneBackToAgain() {
        PencilUp x = Edges.rich();
        Edges.is(true, x.back());
        x.minutes(3);
        Edges.is(true, x.back());
        PencilUp y = Edges.rich();
        y.back();
        Edges.same(y, x, true);
    }

    private static void p57_aWriterWhoCameLaterIsGone() {
        PencilUp x = Check.evening("word a often 1;speech 0 0 0");
        x.image();
        Edges.more(x, "writer speed 9;word b often 1");
        x.minutes(2);
        x.back();
        Edges.fails(Edges.NO_SUCH, () -> x.writer(0, 0));
        Edges.fails(Edges.NO_SUCH, () -> x.word(1, 0));
        x.minutes(1);
        Edges.more(x, "writer speed 9");
        Edges.is("nothing is left on its page", 0, x.page(0, 0));
        Edges.is(0, x.count(10));
    }

    // ---- 58: count ----

    private static void p58_what0To11() {
        PencilUp x = Edges.rich();
        int[] wants = {4, 3, 1, 4, 7, 3, 2, 40, 10, -1, 9, Edges.RICH_ACTS};
        for (int what = 0; what < wants.length; what++) {
            int want = what == 9 ? x.writer(0, 3) + x.writer(1, 3) + x.writer(2, 3) : wants[what];
            Edges.is("what " + what, want, x.count(what));
        }
        for (int wrong : new int[] {-1, 12, 13, Integer.MIN_VALUE, Integer.MAX_VALUE}) {
            Edges.is(PencilUp.NONE, x.count(wrong));
        }
    }

    private static void p58_allFull() {
        PencilUp x = full();
        Edges.more(x, TWENTY + ";tempo 9;slip 100;minute 999");
        x.minutes(20);
        for (int k = 0; k < 9; k++) {
            x.evening();
        }
        Edges.readLaw(x, "tire 99;".repeat(11) + "tire 99");
        for (int k = 0; k < 13; k++) {
            x.learn(0);
        }
        int[] wants = {8, 5, 12, 12, 20, 20, 9, 100, 1019, 100, 60, 12};
        for (int what = 0; what < wants.length; what++) {
            Edges.is("what " + what, wants[what], x.count(what));
        }
    }

    private static void p58_linesOfTheLawNoneWithoutOneAnd0OfAnEmptyOne() {
        PencilUp x = new PencilUp();
        Edges.is(PencilUp.NONE, x.count(3));
        x.law();
        Edges.is(0, x.count(3));
    }

    private static void p58_tiredOfAllTogether() {
        PencilUp x = Check.evening("writer speed 1 tired 99;writer speed 1 tired 99;writer speed 1 tired 99;writer speed 1 tired 99;writer speed 1 tired 99");
        Edges.is(495, x.count(9));
        Edges.is(495, x.trial(0, true));
        x.rest(4);
        Edges.is(396, x.count(9));
    }
}
