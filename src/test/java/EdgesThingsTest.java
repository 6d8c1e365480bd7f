/** Boundary cases of promises 7 to 17: what is told of words, writers, the speech, pages and marks. */
public final class EdgesThingsTest {
    public static void main(String[] args) {
        Edges.runAll(EdgesThingsTest.class);
    }

    private static PencilUp full() {
        PencilUp x = Check.evening("word a often 1;word bb often 2;word ccc often 3;word dddd often 4;word eeeee often 5;word ffffff often 6;"
            + "word gh often 7;word hg often 99");
        Edges.more(x, "writer speed 1;writer speed 2;writer speed 3;writer speed 4;writer speed 9 leaves abcdefgh");
        return x;
    }

    // ---- 7: word ----

    private static void p07_theFirstAndTheLastWord() {
        PencilUp x = full();
        Edges.is(1, x.word(0, 0));
        Edges.is(2, x.word(7, 0));
        Edges.is(99, x.word(7, 1));
        for (int wrong : Edges.NOWHERE) {
            Edges.fails(Edges.NO_SUCH, () -> x.word(wrong, 0));
        }
    }

    private static void p07_noWordBehindTheLastThatThereIs() {
        PencilUp x = Check.evening("word a often 1;word b often 2");
        Edges.is(2, x.word(1, 1));
        Edges.fails(Edges.NO_SUCH, () -> x.word(2, 1));
    }

    private static void p07_what0To3() {
        PencilUp x = full();
        Edges.is(6, x.word(5, 0));
        Edges.is(6, x.word(5, 1));
        Edges.is(true, x.word(5, 2) > 0);
        Edges.is(true, x.word(5, 3) >= 0);
        for (int wrong : new int[] {-1, 4, Integer.MIN_VALUE, Integer.MAX_VALUE}) {
            Edges.fails(Edges.NO_WHAT, () -> x.word(5, wrong));
        }
    }

    private static void p07_noSuchWordIsToldFirst() {
        PencilUp x = full();
        Edges.fails(Edges.NO_SUCH, () -> x.word(8, 4));
        Edges.fails(Edges.NO_SUCH, () -> x.word(-1, -1));
    }

    private static void p07_lengthByCodesIs0OfOneAlone() {
        Edges.is(0, Check.evening("word a often 99").word(0, 2));
        PencilUp two = Check.evening("word a often 99;word b often 1");
        Edges.is(1, two.word(0, 2));
        Edges.is(1, two.word(1, 2));
    }

    private static void p07_lengthOfTheFirstWayByLengths() {
        // Often 1 1 1: 5 strokes; 1 2 2, 2 1 2 and 2 2 1 do it, of which 1 2 2 is the first.
        PencilUp x = Check.evening("word a often 1;word b often 1;word c often 1");
        Edges.is(1, x.word(0, 2));
        Edges.is(2, x.word(1, 2));
        Edges.is(2, x.word(2, 2));
        // Often 2 1 1 2: 12 by 2 2 2 2 and by 1 3 3 2; the first is 1 3 3 2.
        PencilUp y = Check.evening("word a often 2;word b often 1;word c often 1;word d often 2");
        Edges.is(12, y.codes());
        int[] wants = {1, 3, 3, 2};
        for (int k = 0; k < 4; k++) {
            Edges.is(wants[k], y.word(k, 2));
        }
    }

    private static void p07_theLongestLengthIs7OfEightWords() {
        PencilUp x = Check.evening("word a often 64;word b often 32;word c often 16;word d often 8;word e often 4;word f often 2;word g often 1;word h often 1");
        int[] wants = {1, 2, 3, 4, 5, 6, 7, 7};
        for (int k = 0; k < 8; k++) {
            Edges.is(wants[k], x.word(k, 2));
        }
    }

    private static void p07_closestIsNoneOfOneAlone() {
        Edges.is(PencilUp.NONE, Check.evening("word a often 1").word(0, 3));
        Edges.is(1, Check.evening("word a often 1;word hhhhhh often 1").word(0, 3));
    }

    private static void p07_closestOfSeveralTheLeast() {
        PencilUp x = Check.evening("word abc often 1;word abd often 1;word abe often 9;word h often 1");
        Edges.is(1, x.word(0, 3));
        Edges.is(0, x.word(1, 3));
        Edges.is(0, x.word(2, 3));
        Edges.is(0, x.word(3, 3));
    }

    private static void p07_closestIsNeverTheWordItself() {
        PencilUp x = Check.evening("word ab often 1;word cd often 1;word ab often 1");
        Edges.is(2, x.word(0, 3));
        Edges.is(0, x.word(2, 3));
        Edges.is(0, x.word(1, 3));
    }

    private static void p07_refusedChangesNothing() {
        Edges.refused(Edges.NO_SUCH, x -> x.word(4, 0));
        Edges.refused(Edges.NO_SUCH, x -> x.word(-1, 0));
        Edges.refused(Edges.NO_WHAT, x -> x.word(0, 4));
    }

    // ---- 8: letter ----

    private static void p08_theFirstAndTheLastPlace() {
        PencilUp x = Check.evening("word abcdef often 1;word h often 1");
        Edges.is(0, x.letter(0, 0));
        Edges.is(5, x.letter(0, 5));
        Edges.is(PencilUp.NONE, x.letter(0, 6));
        Edges.is(PencilUp.NONE, x.letter(0, -1));
        Edges.is(7, x.letter(1, 0));
        Edges.is(PencilUp.NONE, x.letter(1, 1));
        Edges.is(PencilUp.NONE, x.letter(1, -1));
        Edges.is(PencilUp.NONE, x.letter(1, Integer.MAX_VALUE));
        Edges.is(PencilUp.NONE, x.letter(1, Integer.MIN_VALUE));
    }

    private static void p08_noSuchWord() {
        PencilUp x = full();
        for (int wrong : Edges.NOWHERE) {
            Edges.fails(Edges.NO_SUCH, () -> x.letter(wrong, 0));
        }
        Edges.refused(Edges.NO_SUCH, y -> y.letter(4, 0));
    }

    // ---- 9: writer ----

    private static void p09_theFirstAndTheLastWriter() {
        PencilUp x = full();
        Edges.is(1, x.writer(0, 1));
        Edges.is(9, x.writer(4, 1));
        Edges.is(255, x.writer(4, 0));
        Edges.fails(Edges.NO_SUCH, () -> x.writer(5, 1));
        for (int wrong : Edges.NOWHERE) {
            Edges.fails(Edges.NO_SUCH, () -> x.writer(wrong, 0));
        }
        PencilUp one = Check.evening("writer speed 1");
        Edges.fails(Edges.NO_SUCH, () -> one.writer(1, 1));
    }

    private static void p09_what0To13() {
        PencilUp x = full();
        for (int what = 0; what <= 13; what++) {
            Edges.is(true, x.writer(0, what) >= 0);
        }
        for (int wrong : new int[] {-1, 14, Integer.MIN_VALUE, Integer.MAX_VALUE}) {
            Edges.fails(Edges.NO_WHAT, () -> x.writer(0, wrong));
            Edges.fails(Edges.NO_SUCH, () -> x.writer(5, wrong));
        }
    }

    private static void p09_allAtFirst() {
        PencilUp x = Check.evening("writer speed 3");
        int[] wants = {0, 3, 0, 0, 0, 0, 0, 0, 0, 1, 0, 0, 0, 0};
        for (int what = 0; what < wants.length; what++) {
            Edges.is("what " + what, wants[what], x.writer(0, what));
        }
    }

    private static void p09_cleanIsOfNoStrokes() {
        PencilUp x = full();
        Edges.is(0, x.writer(0, 4));
        Edges.is(255, x.writer(4, 4));
        x.leave(4, 7, false);
        Edges.is("gh and hg have one stroke now", 63, x.writer(4, 4));
    }

    private static void p09_lostIsReadAsAnother() {
        PencilUp x = full();
        Edges.is(0, x.writer(0, 5));
        // All are nothing to writer 4, and read as the oftenest: 1 to 7 together are lost.
        Edges.is(28, x.writer(4, 5));
        PencilUp y = Check.evening("word a often 5;word a often 5;writer speed 1");
        Edges.is("of two as often the second is lost", 5, y.writer(0, 5));
    }

    private static void p09_savesEachTimesOften() {
        PencilUp x = full();
        Edges.is(0, x.writer(0, 6));
        Edges.is(1 + 4 + 9 + 16 + 25 + 36 + 14 + 198, x.writer(4, 6));
        PencilUp most = Check.evening("word aaaaaa often 99;".repeat(7) + "word aaaaaa often 99;writer speed 1 leaves a");
        Edges.is(6 * 99 * 8, most.writer(0, 6));
        Edges.is(7 * 99, most.writer(0, 5));
    }

    private static void p09_doneAndLagWithoutAWord() {
        PencilUp x = full();
        Edges.is(0, x.writer(0, 7));
        Edges.is(0, x.writer(0, 8));
        Edges.is(1, x.writer(0, 9));
        x.speak(5);
        Edges.is(6, x.writer(0, 7));
        Edges.is("a first word is begun when it is said", 0, x.writer(0, 8));
        Edges.is(1, x.writer(0, 9));
    }

    private static void p09_strokesBySpeedRoundedUp() {
        PencilUp x = Check.evening("word abcdef often 1;writer speed 1;writer speed 3;writer speed 5;writer speed 6;writer speed 9;speech 0");
        int[] wants = {6, 2, 2, 1, 1};
        for (int k = 0; k < 5; k++) {
            Edges.is(wants[k], x.writer(k, 7));
        }
    }

    private static void p09_noStrokesTakeNoSeconds() {
        PencilUp x = Check.evening("word a often 1;word b often 1;writer speed 1 leaves a;speech 0 0 0;tempo 4");
        Edges.is(8, x.writer(0, 7));
        Edges.is(0, x.writer(0, 8));
        Edges.is(1, x.writer(0, 9));
        x.speak(1);
        Edges.is(13, x.writer(0, 7));
    }

    private static void p09_lagIsTheLatestNotTheLast() {
        PencilUp x = Check.evening("word abcdef often 1;word a often 1;writer speed 1;speech 0 1 1 1 1 1;tempo 2");
        // Begun at 0, 6, 7, 8, 9, 10; said at 0, 2, 4, 6, 8, 10.
        Edges.is(4, x.writer(0, 8));
        Edges.is(11, x.writer(0, 7));
        Edges.is(6, x.writer(0, 9));
    }

    private static void p09_justInTimeIsNoLag() {
        PencilUp x = Check.evening("word abc often 1;writer speed 1;speech 0 0;tempo 3");
        Edges.is(0, x.writer(0, 8));
        Edges.is(3, x.writer(0, 9));
        x.tempo(2);
        Edges.is(1, x.writer(0, 8));
        Edges.is(3, x.writer(0, 9));
    }

    private static void p09_timesAreOfOneNotTiredAndOfAllSaidOrNot() {
        PencilUp x = Check.evening("word abc often 1;writer speed 1 tired 99;speech 0 0 0");
        Edges.is(9, x.writer(0, 7));
        x.minutes(2);
        Edges.is(9, x.writer(0, 7));
        Edges.is(0, x.writer(0, 8));
    }

    private static void p09_theGreatestEdgeIs6() {
        PencilUp x = Check.evening("word abcdef often 1;writer speed 1;speech 0 0;tempo 9");
        Edges.is(6, x.writer(0, 9));
        Edges.is(0, x.writer(0, 8));
        x.tempo(1);
        Edges.is(5, x.writer(0, 8));
    }

    private static PencilUp written() {
        // Writer 0 misses ab at tempo 1 and writes a; so its page is 1 0 1 1 0 1.
        return Check.evening("word a often 1;word ab often 1;writer speed 1;speech 0 1 0 0 1 0;tempo 1");
    }

    private static void p09_runGapsTrueAreOfWhatIsSaid() {
        PencilUp x = written();
        Edges.is(0, x.writer(0, 10));
        Edges.is(0, x.writer(0, 11));
        Edges.is(0, x.writer(0, 12));
        int[] runs = {1, 1, 1, 2, 2, 2};
        int[] gaps = {0, 1, 1, 1, 2, 2};
        int[] trues = {1, 1, 2, 3, 3, 4};
        for (int k = 0; k < 6; k++) {
            x.minutes(1);
            Edges.is("run at " + k, runs[k], x.writer(0, 10));
            Edges.is("gaps at " + k, gaps[k], x.writer(0, 11));
            Edges.is("true at " + k, trues[k], x.writer(0, 12));
        }
    }

    private static void p09_aRunOfAll20AndTheLastOfIt() {
        PencilUp x = Check.evening("word a often 1;writer speed 9 leaves a;speech 0 0 0 0 0 0;speech 0 0 0 0 0 0;speech 0 0 0 0 0 0;speech 0 0");
        x.minutes(19);
        Edges.is(19, x.writer(0, 10));
        x.minutes(2);
        Edges.is(20, x.writer(0, 10));
        Edges.is(0, x.writer(0, 11));
        Edges.is(20, x.writer(0, 12));
    }

    private static void p09_aRunOfAll20IsNotTheNextWritersToo() {
        PencilUp x = Check.evening("word a often 1;writer speed 9;writer speed 9;writer speed 9;writer speed 9;writer speed 9;"
            + "speech 0 0 0 0 0 0;speech 0 0 0 0 0 0;speech 0 0 0 0 0 0;speech 0 0");
        x.minutes(20);
        for (int k = 0; k < 5; k++) {
            Edges.is(20, x.writer(k, 10));
            Edges.is(0, x.writer(k, 11));
            Edges.is(20, x.writer(k, 12));
            Edges.is(20, x.writer(k, 13));
        }
    }

    private static void p09_slippedOnesAreGapsAndNotTrue() {
        PencilUp x = Check.evening("word a often 1;writer speed 9;speech 0 0;slip 100");
        x.minutes(2);
        Edges.is(0, x.writer(0, 10));
        Edges.is(2, x.writer(0, 11));
        Edges.is(0, x.writer(0, 12));
        Edges.is(0, x.writer(0, 13));
    }

    private static void p09_trueIsReadAsItIsNow() {
        PencilUp x = Check.evening("word ab often 1;word b often 1;writer speed 9;speech 0 1");
        x.minutes(2);
        Edges.is(2, x.writer(0, 12));
        x.leave(0, 0, true);
        Edges.is("b is read as ab, which is the least of both", 1, x.writer(0, 12));
        x.often(1, 2);
        Edges.is("now ab is read as b", 1, x.writer(0, 12));
    }

    private static void p09_shareInHundredthsRoundedDown() {
        PencilUp x = Check.evening("word a often 1;word bcd often 1;writer speed 9;writer speed 1;speech 0 1;tempo 1");
        Edges.is(0, x.writer(0, 13));
        x.minutes(1);
        Edges.is(50, x.writer(0, 13));
        Edges.is(50, x.writer(1, 13));
        x.minutes(1);
        Edges.is(66, x.writer(0, 13));
        Edges.is(33, x.writer(1, 13));
        PencilUp all = written();
        all.minutes(1);
        Edges.is(100, all.writer(0, 13));
    }

    private static void p09_refusedChangesNothing() {
        Edges.refused(Edges.NO_SUCH, x -> x.writer(3, 0));
        Edges.refused(Edges.NO_SUCH, x -> x.writer(-1, 14));
        Edges.refused(Edges.NO_WHAT, x -> x.writer(2, 14));
        Edges.refused(Edges.NO_WHAT, x -> x.writer(2, -1));
    }

    private static void p09_askingChangesNothing() {
        Edges.changesNothing(x -> {
            for (int what = 0; what < 14; what++) {
                x.writer(0, what);
            }
            return 0;
        });
    }

    // ---- 10: speech ----

    private static void p10_theFirstAndTheLast() {
        PencilUp x = full();
        Edges.is(PencilUp.NONE, x.speech(0));
        for (int k = 0; k < 20; k++) {
            x.speak(7 - k % 8);
            Edges.is(7 - k % 8, x.speech(k));
            Edges.is(PencilUp.NONE, x.speech(k + 1));
        }
        Edges.is(7, x.speech(0));
        Edges.is(PencilUp.NONE, x.speech(-1));
        Edges.is(PencilUp.NONE, x.speech(20));
        Edges.is(PencilUp.NONE, x.speech(Integer.MAX_VALUE));
        Edges.is(PencilUp.NONE, x.speech(Integer.MIN_VALUE));
    }

    private static void p10_saidOrNot() {
        PencilUp x = Check.evening("word a often 1;word b often 1;speech 1 0");
        x.minutes(1);
        Edges.is(1, x.speech(0));
        Edges.is(0, x.speech(1));
    }

    // ---- 11: page ----

    private static void p11_noneBeforeItIsSaid() {
        PencilUp x = Check.evening("word a often 1;writer speed 9;writer speed 9 tired 99 leaves a;speech 0 0");
        Edges.is(PencilUp.NONE, x.page(0, 0));
        x.minutes(1);
        Edges.is(1, x.page(0, 0));
        Edges.is(PencilUp.NONE, x.page(0, 1));
        x.minutes(1);
        Edges.is(1, x.page(0, 1));
        Edges.is(PencilUp.NONE, x.page(0, 2));
        Edges.is(PencilUp.NONE, x.page(0, -1));
        Edges.is(PencilUp.NONE, x.page(0, Integer.MIN_VALUE));
        Edges.is(PencilUp.NONE, x.page(0, Integer.MAX_VALUE));
    }

    private static void p11_the20thWord() {
        PencilUp x = Check.evening("word a often 1;writer speed 9;writer speed 9;speech 0 0 0 0 0 0;speech 0 0 0 0 0 0;speech 0 0 0 0 0 0;speech 0 0");
        x.minutes(20);
        Edges.is(1, x.page(0, 19));
        Edges.is("not the next writer's", PencilUp.NONE, x.page(0, 20));
        Edges.is(PencilUp.NONE, x.page(1, 20));
        Edges.is("not the one before's", PencilUp.NONE, x.page(1, -1));
    }

    private static void p11_0To2() {
        PencilUp x = Check.evening("word a often 1;word bcdefg often 1;writer speed 1;speech 0 1 0;tempo 1");
        x.minutes(2);
        Edges.is("written", 1, x.page(0, 0));
        Edges.is("missed", 0, x.page(0, 1));
        Edges.more(x, "slip 100");
        x.minutes(1);
        Edges.is("slipped", 2, x.page(0, 2));
    }

    private static void p11_missedIsWhatWasSaidAheadOfItsComing() {
        PencilUp x = Check.evening("word a often 1;speech 0 0 0");
        x.minutes(2);
        Edges.more(x, "writer speed 9");
        Edges.is(0, x.page(0, 0));
        Edges.is(0, x.page(0, 1));
        Edges.is(PencilUp.NONE, x.page(0, 2));
        Edges.is(2, x.writer(0, 11));
    }

    private static void p11_noSuchWriter() {
        PencilUp x = full();
        Edges.fails(Edges.NO_SUCH, () -> x.page(5, 0));
        for (int wrong : Edges.NOWHERE) {
            Edges.fails(Edges.NO_SUCH, () -> x.page(wrong, 99));
        }
        Edges.refused(Edges.NO_SUCH, y -> y.page(3, 0));
    }

    // ---- 12: strokes ----

    private static void p12_noneLeftAndAllKept() {
        PencilUp x = full();
        for (int word = 0; word < 8; word++) {
            Edges.is(x.word(word, 0), x.strokes(0, word));
            Edges.is(0, x.strokes(4, word));
        }
        x.leave(4, 7, false);
        Edges.is(1, x.strokes(4, 7));
    }

    private static void p12_noSuchWriterOrWord() {
        PencilUp x = full();
        Edges.fails(Edges.NO_SUCH, () -> x.strokes(5, 0));
        for (int wrong : Edges.NOWHERE) {
            Edges.fails(Edges.NO_SUCH, () -> x.strokes(wrong, 0));
            Edges.fails(Edges.NO_SUCH, () -> x.strokes(4, wrong));
        }
        Edges.refused(Edges.NO_SUCH, y -> y.strokes(3, 0));
        Edges.refused(Edges.NO_SUCH, y -> y.strokes(0, 4));
    }

    // ---- 13: mark ----

    private static void p13_noneMayBeLeft() {
        PencilUp x = full();
        Edges.is(PencilUp.NONE, x.mark(4, 5, 0));
        Edges.is(PencilUp.NONE, x.mark(4, 5, -1));
    }

    private static void p13_inTheirOrderFirstToLast() {
        PencilUp x = Check.evening("word fedcba often 1;writer speed 1;writer speed 1 leaves ace;writer speed 1 leaves fa");
        int[][] wants = {{5, 4, 3, 2, 1, 0, -1}, {5, 3, 1, -1}, {4, 3, 2, 1, -1}};
        for (int writer = 0; writer < 3; writer++) {
            for (int k = 0; k < wants[writer].length; k++) {
                Edges.is(wants[writer][k], x.mark(writer, 0, k));
            }
            Edges.is(PencilUp.NONE, x.mark(writer, 0, -1));
            Edges.is(PencilUp.NONE, x.mark(writer, 0, 6));
            Edges.is(PencilUp.NONE, x.mark(writer, 0, Integer.MAX_VALUE));
            Edges.is(PencilUp.NONE, x.mark(writer, 0, Integer.MIN_VALUE));
        }
    }

    private static void p13_noSuchWriterOrWord() {
        PencilUp x = full();
        Edges.fails(Edges.NO_SUCH, () -> x.mark(5, 0, 0));
        for (int wrong : Edges.NOWHERE) {
            Edges.fails(Edges.NO_SUCH, () -> x.mark(wrong, 0, 0));
            Edges.fails(Edges.NO_SUCH, () -> x.mark(0, wrong, 0));
        }
        Edges.refused(Edges.NO_SUCH, y -> y.mark(3, 0, 0));
        Edges.refused(Edges.NO_SUCH, y -> y.mark(0, 4, 0));
    }

    // ---- 14: alike ----

    private static void p14_thatOneToo() {
        PencilUp x = full();
        for (int word = 0; word < 8; word++) {
            Edges.is(1 << word, x.alike(0, word));
            Edges.is(255, x.alike(4, word));
        }
    }

    private static void p14_theSameLettersInTheSameOrder() {
        PencilUp x = Check.evening("word ab often 1;word ba often 1;word cab often 1;word abb often 1;word acb often 1;writer speed 1 leaves c");
        Edges.is(1 | 4 | 16, x.alike(0, 0));
        Edges.is(2, x.alike(0, 1));
        Edges.is(8, x.alike(0, 3));
    }

    private static void p14_noStrokesAreAlikeAndNotLikeA() {
        PencilUp x = Check.evening("word a often 1;word b often 1;word bb often 1;word aa often 1;writer speed 1 leaves b");
        Edges.is(1, x.alike(0, 0));
        Edges.is(6, x.alike(0, 1));
        Edges.is(8, x.alike(0, 3));
    }

    private static void p14_noLetterIsTakenForTwoOthers() {
        for (char last = 'a'; last <= 'h'; last++) {
            PencilUp x = Check.evening("word a often 1;word b often 1;word c often 1;word h often 1;".replace("word " + last + " often 1;", "")
                + "word " + last + " often 1;word a" + last + " often 1;word b" + last + " often 1;word h" + last + " often 1;writer speed 1");
            int words = x.count(0);
            for (int word = 0; word < words; word++) {
                Edges.is("by " + last, 1 << word, x.alike(0, word));
            }
        }
        PencilUp six = Check.evening("word hhhhhh often 1;word ahhhhh often 1;word hhhhh often 1;word aaaaaa often 1;word gggggg often 1;writer speed 1");
        for (int word = 0; word < 5; word++) {
            Edges.is(1 << word, six.alike(0, word));
        }
    }

    private static void p14_noSuchWriterOrWord() {
        PencilUp x = full();
        Edges.fails(Edges.NO_SUCH, () -> x.alike(5, 0));
        for (int wrong : Edges.NOWHERE) {
            Edges.fails(Edges.NO_SUCH, () -> x.alike(wrong, 0));
            Edges.fails(Edges.NO_SUCH, () -> x.alike(0, wrong));
        }
        Edges.refused(Edges.NO_SUCH, y -> y.alike(3, 0));
        Edges.refused(Edges.NO_SUCH, y -> y.alike(0, 4));
    }

    // ---- 15: reads ----

    private static void p15_theMostOftenOfSeveralTheLeast() {
        PencilUp x = Check.evening("word a often 5;word b often 5;word c often 4;writer speed 1 leaves abc;writer speed 1");
        for (int word = 0; word < 3; word++) {
            Edges.is(0, x.reads(0, word));
            Edges.is(word, x.reads(1, word));
        }
        x.often(1, 6);
        Edges.is(1, x.reads(0, 0));
        x.often(2, 6);
        Edges.is(1, x.reads(0, 2));
        x.often(2, 7);
        Edges.is(2, x.reads(0, 1));
    }

    private static void p15_ofAlikeOnesAlone() {
        PencilUp x = Check.evening("word ab often 1;word b often 2;word c often 99;writer speed 1 leaves a");
        Edges.is(1, x.reads(0, 0));
        Edges.is(2, x.reads(0, 2));
    }

    private static void p15_noSuchWriterOrWord() {
        PencilUp x = full();
        Edges.fails(Edges.NO_SUCH, () -> x.reads(5, 0));
        for (int wrong : Edges.NOWHERE) {
            Edges.fails(Edges.NO_SUCH, () -> x.reads(wrong, 0));
            Edges.fails(Edges.NO_SUCH, () -> x.reads(0, wrong));
        }
        Edges.refused(Edges.NO_SUCH, y -> y.reads(3, 0));
        Edges.refused(Edges.NO_SUCH, y -> y.reads(0, 4));
    }

    // ---- 16: keepsUp ----

    private static void p16_atMostSpeedTimesTempo() {
        PencilUp x = Check.evening("word abcd often 1;word abcde often 1;writer speed 2;tempo 2");
        Edges.is(true, x.keepsUp(0, 0));
        Edges.is(false, x.keepsUp(0, 1));
        x.tempo(3);
        Edges.is(true, x.keepsUp(0, 1));
        x.tempo(1);
        Edges.is(false, x.keepsUp(0, 0));
    }

    private static void p16_lessTiredBy10RoundedDown() {
        PencilUp x = Check.evening("word abc often 1;writer speed 3 tired 9;writer speed 3 tired 10;writer speed 4 tired 19;writer speed 4 tired 20;tempo 1");
        Edges.is(true, x.keepsUp(0, 0));
        Edges.is(false, x.keepsUp(1, 0));
        Edges.is(true, x.keepsUp(2, 0));
        Edges.is(false, x.keepsUp(3, 0));
    }

    private static void p16_tired99Is9Less() {
        PencilUp x = Check.evening("word a often 1;word b often 1;writer speed 9 tired 99 leaves b;writer speed 8 tired 99 leaves b;writer speed 9 tired 89 leaves b;tempo 1");
        Edges.is("0 strokes of 0", true, x.keepsUp(0, 1));
        Edges.is("1 stroke of 0", false, x.keepsUp(0, 0));
        Edges.is("0 strokes of 1 too few", false, x.keepsUp(1, 1));
        Edges.is("1 stroke of 1", true, x.keepsUp(2, 0));
    }

    private static void p16_noSuchWriterOrWord() {
        PencilUp x = full();
        Edges.fails(Edges.NO_SUCH, () -> x.keepsUp(5, 0) ? 1 : 0);
        for (int wrong : Edges.NOWHERE) {
            Edges.fails(Edges.NO_SUCH, () -> x.keepsUp(wrong, 0) ? 1 : 0);
            Edges.fails(Edges.NO_SUCH, () -> x.keepsUp(0, wrong) ? 1 : 0);
        }
        Edges.refused(Edges.NO_SUCH, y -> y.keepsUp(3, 0) ? 1 : 0);
        Edges.refused(Edges.NO_SUCH, y -> y.keepsUp(0, 4) ? 1 : 0);
    }

    // ---- 17: slips ----

    private static void p17_0AtLeast() {
        PencilUp x = Check.evening("word a often 1;writer speed 1 skill 9;writer speed 1 skill 8;slip 45");
        Edges.is(0, x.slips(0, 0));
        Edges.is(5, x.slips(1, 0));
        Edges.more(x, "slip 46");
        Edges.is(1, x.slips(0, 0));
        Edges.more(x, "slip 44");
        Edges.is(0, x.slips(0, 0));
        Edges.more(x, "slip 0");
        Edges.is(0, x.slips(0, 0));
    }

    private static void p17_100AtMost() {
        PencilUp x = Check.evening("word a often 1;writer speed 1;writer speed 1 skill 1;slip 100");
        Edges.is(100, x.slips(0, 0));
        Edges.is(95, x.slips(1, 0));
        Edges.readLaw(x, "slip 4");
        Edges.is(100, x.slips(0, 0));
        Edges.is("less skill, then at most 100", 99, x.slips(1, 0));
        Edges.readLaw(x, "slip 6");
        Edges.is(100, x.slips(1, 0));
        Edges.readLaw(x, "slip 99;".repeat(11) + "slip 99");
        Edges.is(100, x.slips(0, 0));
    }

    private static void p17_theSumOfAllSlipLinesThatHoldAndOfNoOthers() {
        PencilUp x = Check.evening("word a often 1;writer speed 1;slip 1", "slip 2;tire 4;rest 8;slip 16 if sure;slip 32 if not sure");
        Edges.is(19, x.slips(0, 0));
    }

    private static void p17_noSuchWriterOrWord() {
        PencilUp x = full();
        Edges.fails(Edges.NO_SUCH, () -> x.slips(5, 0));
        for (int wrong : Edges.NOWHERE) {
            Edges.fails(Edges.NO_SUCH, () -> x.slips(wrong, 0));
            Edges.fails(Edges.NO_SUCH, () -> x.slips(0, wrong));
        }
        Edges.refused(Edges.NO_SUCH, y -> y.slips(3, 0));
        Edges.refused(Edges.NO_SUCH, y -> y.slips(0, 4));
    }
}
