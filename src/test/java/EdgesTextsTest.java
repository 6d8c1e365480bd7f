/** Boundary cases of promises 1 to 6: a new object, the tape, the texts of the evening and of the law, their faults. */
public final class EdgesTextsTest {
    private static final String BLANKS = " ".repeat(400);

    public static void main(String[] args) {
        Edges.runAll(EdgesTextsTest.class);
    }

    private static PencilUp fed(int bytes) {
        PencilUp x = new PencilUp();
        Check.tell(x, BLANKS.substring(0, bytes));
        return x;
    }

    // ---- 1: a new object ----

    private static void p01_anEveningWithoutAWord() {
        PencilUp x = new PencilUp();
        Edges.is(0, x.count(0));
        Edges.fails(Edges.NO_SUCH, () -> x.word(0, 0));
        Edges.fails(Edges.NO_SUCH, () -> x.letter(0, 0));
        Edges.fails(Edges.NO_SUCH, () -> x.speak(0));
        Edges.is(255, x.silent());
        Edges.is(PencilUp.NONE, x.oftenest(true));
    }

    private static void p01_noWriterYet() {
        PencilUp x = new PencilUp();
        Edges.is(0, x.count(1));
        Edges.fails(Edges.NO_SUCH, () -> x.writer(0, 0));
        Edges.fails(Edges.NO_SUCH, () -> x.page(0, 0));
        Edges.is(PencilUp.NONE, x.quickest(true));
        Edges.is(0, x.count(9));
    }

    private static void p01_noSpeechAtFirstAndNothingSaid() {
        PencilUp x = new PencilUp();
        Edges.is(0, x.count(4));
        Edges.is(0, x.count(5));
        Edges.is(PencilUp.NONE, x.speech(0));
        Edges.is(0, x.echo());
    }

    private static void p01_tempo3SlipAndMinute0Seed1AtFirst() {
        PencilUp x = new PencilUp();
        Edges.is(3, x.count(6));
        Edges.is(0, x.count(7));
        Edges.is(0, x.count(8));
        Edges.is(1, x.seed(1));
    }

    private static void p01_noTextNoLawNoLogNoActNoImageNoTape() {
        PencilUp x = new PencilUp();
        Edges.is(0, x.count(2));
        Edges.is(PencilUp.NONE, x.count(3));
        Edges.is(0, x.count(10));
        Edges.is(0, x.count(11));
        Edges.is(PencilUp.NONE, x.log(0, 0));
        Edges.is(false, x.undo());
        Edges.is(false, x.back());
        Edges.is(PencilUp.NONE, x.fault());
        Edges.is(false, x.end(1));
        Edges.is(true, x.end(0));
        Edges.is(20, x.feed(0, 0, 0, 0, 0));
    }

    private static void p01_objectsShareNothing() {
        PencilUp x = Edges.rich();
        Edges.same(new PencilUp(), new PencilUp(), true);
        Edges.same(Edges.rich(), x, true);
    }

    // ---- 2: feed ----

    private static void p02_twentyBytesEachTimeUpTo400() {
        PencilUp x = new PencilUp();
        for (int k = 1; k <= 20; k++) {
            Edges.is(20 * k, x.feed(0, 0, 0, 0, 0));
        }
        Edges.is(PencilUp.NONE, x.feed(0, 0, 0, 0, 0));
    }

    private static void p02_at380TwentyComeAndAt381None() {
        PencilUp x = fed(380);
        Edges.is(400, x.feed(0, 0, 0, 0, 0));
        x.end(381);
        Edges.is(PencilUp.NONE, x.feed(0, 0, 0, 0, 0));
        Edges.is(false, x.end(382));
        Edges.is(true, x.end(381));
    }

    private static void p02_noneComeBeyond400() {
        PencilUp x = new PencilUp();
        Check.tell(x, "tempo 7" + BLANKS.substring(0, 374));
        // ";;;;" would be wrong behind the text, if but one byte of it came.
        Edges.is(PencilUp.NONE, x.feed(0x3b3b3b3b, 0x3b3b3b3b, 0x3b3b3b3b, 0x3b3b3b3b, 0x3b3b3b3b));
        Edges.is(1, x.evening());
        Edges.is(7, x.count(6));
    }

    private static void p02_beyond400ChangesNothing() {
        PencilUp x = fed(400);
        x.feed(1, 2, 3, 4, 5);
        Edges.is(false, x.end(401));
        Edges.is(true, x.end(400));
        Edges.is(-1, x.fault());
    }

    private static void p02_ofEachNumberTheHighestFirst() {
        PencilUp x = new PencilUp();
        // "temp" "o 8;" "slip" " 77;" "minu" and "te 9"
        x.feed(0x74656d70, 0x6f20383b, 0x736c6970, 0x2037373b, 0x6d696e75);
        x.feed(0x74652039, 0, 0, 0, 0);
        x.end(24);
        Edges.is(1, x.evening());
        Edges.is(8, x.count(6));
        Edges.is(77, x.count(7));
        Edges.is(9, x.count(8));
    }

    private static void p02_bytesOf128AndMoreAreNotBelow0() {
        PencilUp x = Check.evening("word a often 1");
        // Were 255 taken for -1, or 128 for -128, they would be below all bounds.
        for (int row : new int[] {0xff000000, 0x00ff0000, 0x80000000, 0x00800000}) {
            x.feed(row, 0, 0, 0, 0);
            x.end(2);
            Edges.fails(Edges.NONE_SUCH, () -> x.heard());
            x.feed(row, 0, 0, 0, 0);
            x.end(2);
            Edges.fails(Edges.NONE_SUCH, () -> x.hand(false));
        }
        Edges.wrongEvening("tempo 3;" + "^" + (char) 255);
        Edges.wrongEvening("tempo" + "^" + (char) 160 + "3");
    }

    private static void p02_theTapeBeginsAgainWhereItIsUsedUp() {
        Edges.On[] users = {PencilUp::evening, PencilUp::law, PencilUp::heard, PencilUp::likely, PencilUp::look,
            x -> x.hand(true), PencilUp::ask, PencilUp::whose};
        for (Edges.On user : users) {
            PencilUp x = Check.evening("word a often 1;writer speed 1");
            Edges.is(20, x.feed(0, 0, 0, 0, 0));
            x.end(0);
            user.answer(x);
            Edges.is("used up when empty", 20, x.feed(0x20202020, 0, 0, 0, 0));
            // Two blanks are a text, but no rows: used up likewise.
            x.end(2);
            try {
                user.answer(x);
            } catch (IllegalArgumentException due) {
                Edges.is(PencilUp.NONE, x.fault());
            }
            Edges.is("used up", 20, x.feed(0, 0, 0, 0, 0));
        }
    }

    private static void p02_aFullTapeCanBeUsedUpAndFilledAgain() {
        PencilUp x = new PencilUp();
        Check.tell(x, "tempo 5;slip 9" + BLANKS.substring(0, 386));
        Edges.is(1, x.evening());
        Check.tell(x, BLANKS.substring(0, 379) + "slip 8;minute 2;tempo");
        Edges.is(false, x.end(401));
        Edges.fails(Edges.NONE_SUCH, () -> x.evening());
        Edges.is(400, x.fault());
        Check.tell(x, BLANKS.substring(0, 386) + "slip 8;tempo 1");
        Edges.is(2, x.evening());
        Edges.is(8, x.count(7));
        Edges.is(1, x.count(6));
    }

    // ---- 3: end ----

    private static void p03_allOfItAndOneMore() {
        PencilUp x = fed(40);
        Edges.is(false, x.end(41));
        Edges.is(true, x.end(40));
        Edges.is(true, x.end(39));
        Edges.is(false, x.end(40));
    }

    private static void p03_noneAndBelow0() {
        PencilUp x = fed(20);
        Edges.is(false, x.end(-1));
        Edges.is(false, x.end(Integer.MIN_VALUE));
        Edges.is(false, x.end(Integer.MAX_VALUE));
        Edges.is(true, x.end(20));
        Edges.is(true, x.end(0));
        Edges.is(false, x.end(1));
        Edges.is(true, x.end(0));
    }

    private static void p03_falseAndNothingHappens() {
        Edges.changesNothing(x -> x.end(8) ? 1 : 0);
        Edges.changesNothing(x -> x.end(-1) ? 1 : 0);
        Edges.changesNothing(x -> x.end(7) ? 1 : 0);
    }

    private static void p03_theFirstBytesAloneStay() {
        PencilUp x = new PencilUp();
        Check.tell(x, "tempo 71;slip 5");
        x.end(7);
        // "4   " comes behind the seven bytes that are left, where it would be a number of its own.
        x.feed(0x3b736c69, 0x70203420, 0x20202020, 0x20202020, 0x20202020);
        Edges.is(1, x.evening());
        Edges.is(7, x.count(6));
        Edges.is(4, x.count(7));
    }

    // ---- 4: texts of the evening ----

    private static void p04_anEmptyTextAndBlanksAlone() {
        PencilUp x = new PencilUp();
        Edges.is(1, x.evening());
        Check.tell(x, " ");
        Edges.is(2, x.evening());
        Check.tell(x, BLANKS);
        Edges.is(3, x.evening());
        Edges.is(PencilUp.NONE, x.fault());
        Edges.is(0, x.count(0));
    }

    private static PencilUp told(int texts) {
        PencilUp x = new PencilUp();
        for (int k = 0; k < texts; k++) {
            x.evening();
        }
        return x;
    }

    private static void p04_twelveTextsAndA13th() {
        PencilUp x = told(11);
        Check.tell(x, "tempo 8");
        Edges.is(12, x.evening());
        Edges.is(8, x.count(6));
        Check.tell(x, "tempo 5");
        Edges.fails(Edges.NO_MORE, () -> x.evening());
        Edges.is(8, x.count(6));
        Edges.is(12, x.count(2));
        Edges.fails(Edges.NO_MORE, () -> x.evening());
    }

    private static void p04_a13thTextUsesTheTapeUpAndChangesNothing() {
        Edges.Made made = () -> {
            PencilUp x = told(11);
            Edges.more(x, "word a often 1;writer speed 1;speech 0 0");
            x.image();
            x.minutes(1);
            x.seed(9);
            return x;
        };
        Edges.refused(Edges.NO_MORE, made, x -> {
            Check.tell(x, "word b often 1;writer speed 1;speech 0 0;tempo 1;slip 1;minute 1");
            return x.evening();
        });
    }

    private static void p04_a13thTextThatIsWrongIsWrongFirst() {
        Edges.wrongEvening(told(12), "tempo ^0");
        Edges.wrongEvening(told(12), "^x");
        Edges.wrongEvening(told(11), "tempo ^0");
    }

    private static void p04_wrongTextsAreNotCounted() {
        PencilUp x = new PencilUp();
        for (int k = 0; k < 13; k++) {
            Edges.wrongEvening(x, "^x");
        }
        Edges.is(0, x.count(2));
        Edges.is(1, x.evening());
    }

    private static void p04_fourteenLinesAndA15th() {
        PencilUp x = Check.evening("slip 1;".repeat(13) + "slip 2");
        Edges.is(2, x.count(7));
        Edges.wrongEvening("slip 1;".repeat(13) + "slip 1;^slip 2");
        Edges.wrongEvening("slip 1;".repeat(13) + "slip 1;  ^slip 2");
        Edges.wrongEvening("slip 1;".repeat(13) + "slip 1;^");
        Edges.wrongEvening("slip 1;".repeat(13) + "slip 1; ^;");
    }

    private static void p04_linesAreCountedOfEachTextAlone() {
        PencilUp x = new PencilUp();
        Edges.more(x, "slip 1;".repeat(13) + "slip 2");
        Edges.more(x, "slip 3;".repeat(13) + "slip 4");
        Edges.is(4, x.count(7));
    }

    private static void p04_aLineMustComeBehindAndAheadOfEachSemicolon() {
        Edges.wrongEvening("^;");
        Edges.wrongEvening("  ^;tempo 1");
        Edges.wrongEvening("tempo 1;^");
        Edges.wrongEvening("tempo 1;  ^");
        Edges.wrongEvening("tempo 1;^;tempo 2");
        Edges.wrongEvening("tempo 1 ^tempo 2");
        Edges.wrongEvening("tempo 1^.");
        Edges.wrongEvening("^7");
        Edges.wrongEvening("^nothing");
    }

    private static void p04_eightWordsAndANinth() {
        String eight = "word a often 1;".repeat(7) + "word b often 2";
        PencilUp x = Check.evening(eight);
        Edges.is(8, x.count(0));
        Edges.is(2, x.word(7, 1));
        Edges.wrongEvening(x, "^word c often 3");
        Edges.wrongEvening(x, "slip 5;^word");
        Edges.is(0, x.count(7));
        Edges.wrongEvening(eight + " ;^word c often 3");
        Edges.fails(Edges.NO_SUCH, () -> x.word(8, 0));
    }

    private static void p04_oneToSixLetters() {
        PencilUp x = Check.evening("word h often 1;word hhhhhh often 1");
        Edges.is(1, x.word(0, 0));
        Edges.is(6, x.word(1, 0));
        Edges.wrongEvening("word ^hhhhhhh often 1");
        Edges.wrongEvening("word ^");
        Edges.wrongEvening("word ^;");
        Edges.wrongEvening("word ^5 often 1");
    }

    private static void p04_lettersAToHAlone() {
        PencilUp x = Check.evening("word abcd often 1;word efgh often 1");
        for (int k = 0; k < 8; k++) {
            Edges.is(k, x.letter(k / 4, k % 4));
        }
        Edges.wrongEvening("word ^i often 1");
        Edges.wrongEvening("word ^abcdei often 1");
        Edges.wrongEvening("word ^z often 1");
        Edges.wrongEvening("word ^A often 1");
        Edges.wrongEvening("word ^` often 1");
        Edges.wrongEvening("word ^{ often 1");
        Edges.wrongEvening("word a^` often 1");
        Edges.wrongEvening("word ^often 1");
        Edges.wrongEvening("word ab ^a often 1");
    }

    private static void p04_often1To99() {
        PencilUp x = Check.evening("word a often 1;word b often 99");
        Edges.is(1, x.word(0, 1));
        Edges.is(99, x.word(1, 1));
        Edges.wrongEvening("word a often ^0");
        Edges.wrongEvening("word a often ^100");
        Edges.wrongEvening("word a often ^");
        Edges.wrongEvening("word a ^");
        Edges.wrongEvening("word a ^99");
        Edges.wrongEvening("word a often 1 ^1");
    }

    private static void p04_fiveWritersAndASixth() {
        String five = "writer speed 1;".repeat(4) + "writer speed 2";
        PencilUp x = Check.evening(five);
        Edges.is(5, x.count(1));
        Edges.is(2, x.writer(4, 1));
        Edges.wrongEvening(x, "^writer speed 3");
        Edges.wrongEvening(x, "slip 5;  ^writer");
        Edges.wrongEvening(five + ";^writer speed 3");
        Edges.fails(Edges.NO_SUCH, () -> x.writer(5, 0));
    }

    private static void p04_speed1To9() {
        PencilUp x = Check.evening("writer speed 1;writer speed 9");
        Edges.is(1, x.writer(0, 1));
        Edges.is(9, x.writer(1, 1));
        Edges.wrongEvening("writer speed ^0");
        Edges.wrongEvening("writer speed ^10");
        Edges.wrongEvening("writer speed ^");
        Edges.wrongEvening("writer ^");
        Edges.wrongEvening("writer ^skill 1");
    }

    private static void p04_skill0To9AndNoneAtFirst() {
        PencilUp x = Check.evening("writer speed 1 skill 0;writer speed 1 skill 9;writer speed 1");
        Edges.is(0, x.writer(0, 2));
        Edges.is(9, x.writer(1, 2));
        Edges.is(0, x.writer(2, 2));
        Edges.wrongEvening("writer speed 1 skill ^10");
        Edges.wrongEvening("writer speed 1 skill ^");
        Edges.wrongEvening("writer speed 1 skill ^-1");
        Edges.wrongEvening("writer speed 1 skill 1 ^skill 1");
    }

    private static void p04_tired0To99AndNoneAtFirst() {
        PencilUp x = Check.evening("writer speed 1 tired 0;writer speed 1 tired 99;writer speed 1");
        Edges.is(0, x.writer(0, 3));
        Edges.is(99, x.writer(1, 3));
        Edges.is(0, x.writer(2, 3));
        Edges.wrongEvening("writer speed 1 tired ^100");
        Edges.wrongEvening("writer speed 1 tired ^");
        Edges.wrongEvening("writer speed 1 tired 5 ^skill 1");
    }

    private static void p04_leavesLettersNoneTwice() {
        PencilUp x = Check.evening("writer speed 1 leaves a;writer speed 1 leaves hgfedcba;writer speed 1;writer speed 1 leaves h");
        Edges.is(1, x.writer(0, 0));
        Edges.is(255, x.writer(1, 0));
        Edges.is(0, x.writer(2, 0));
        Edges.is(128, x.writer(3, 0));
        Edges.wrongEvening("writer speed 1 leaves ^aa");
        Edges.wrongEvening("writer speed 1 leaves ^abcdefgha");
        Edges.wrongEvening("writer speed 1 leaves ^i");
        Edges.wrongEvening("writer speed 1 leaves ^abi");
        Edges.wrongEvening("writer speed 1 leaves ^");
        Edges.wrongEvening("writer speed 1 leaves ^;");
        Edges.wrongEvening("writer speed 1 leaves ^5");
        Edges.wrongEvening("writer speed 1 leaves a ^b");
        Edges.wrongEvening("writer speed 1 leaves a ^tired 5");
    }

    private static void p04_writersOfTheSameTextHaveNothingOfOneAnother() {
        PencilUp x = Check.evening("writer speed 9 skill 9 tired 99 leaves abcdefgh;writer speed 1");
        Edges.is(0, x.writer(1, 0));
        Edges.is(1, x.writer(1, 1));
        Edges.is(0, x.writer(1, 2));
        Edges.is(0, x.writer(1, 3));
    }

    private static void p04_oneToSixNumbersOfASpeech() {
        PencilUp x = Check.evening("word a often 1;speech 0");
        Edges.is(1, x.count(4));
        Edges.more(x, "speech 0 0 0 0 0 0");
        Edges.is(7, x.count(4));
        Edges.wrongEvening(x, "speech 0 0 0 0 0 0 ^0");
        Edges.wrongEvening(x, "speech 0 0 0 0 0 0 ^9");
        Edges.wrongEvening(x, "speech ^");
        Edges.wrongEvening(x, "speech ^;");
        Edges.wrongEvening(x, "speech ^a");
        Edges.is(7, x.count(4));
    }

    private static void p04_theNumbersEndWhereNoneStandsNext() {
        PencilUp x = Check.evening("word a often 1;speech 0 0;tempo 7");
        Edges.is(2, x.count(4));
        Edges.is(7, x.count(6));
        Edges.wrongEvening("word a often 1;speech 0 ^tempo 7");
        Edges.wrongEvening("word a often 1;speech 0 0 0 0 0 0 ^tempo 7");
        Edges.wrongEvening("word a often 1;speech 0^,0");
    }

    private static PencilUp spoken(int many) {
        PencilUp x = Check.evening("word a often 1;word b often 1");
        for (int k = 0; k < many; k++) {
            x.speak(0);
        }
        return x;
    }

    private static void p04_aSpeechOf20AndNotBeyond() {
        PencilUp x = spoken(14);
        Edges.more(x, "speech 1 1 1 1 1 1");
        Edges.is(20, x.count(4));
        Edges.is(1, x.speech(19));
        Edges.wrongEvening(x, "speech ^0");
        Edges.wrongEvening(x, "speech ^");
        Edges.wrongEvening(spoken(15), "speech 1 1 1 1 1 ^1");
        Edges.wrongEvening(spoken(19), "speech 1 ^1 1");
        Edges.wrongEvening(spoken(19), "speech 0;speech ^0");
        Edges.is(20, x.count(4));
    }

    private static void p04_wordsThatThereAreByThen() {
        PencilUp x = Check.evening("word a often 1;speech 0;word b often 1;speech 1 0");
        Edges.is(3, x.count(4));
        Edges.is(1, x.speech(1));
        Edges.more(x, "speech 1");
        Edges.wrongEvening("word a often 1;speech 0 ^1;word b often 1");
        Edges.wrongEvening("speech ^0;word a often 1");
        Edges.wrongEvening("word a often 1;speech ^1");
        Edges.wrongEvening(x, "speech 1 ^2");
        Edges.wrongEvening(x, "speech 0 ^999");
        Edges.wrongEvening(x, "speech 0 ^0000");
    }

    private static void p04_tempo1To9() {
        Edges.is(1, Check.evening("tempo 1").count(6));
        Edges.is(9, Check.evening("tempo 9").count(6));
        Edges.wrongEvening("tempo ^0");
        Edges.wrongEvening("tempo ^10");
        Edges.wrongEvening("tempo ^");
    }

    private static void p04_slip0To100() {
        Edges.is(0, Check.evening("slip 5;slip 0").count(7));
        Edges.is(100, Check.evening("slip 100").count(7));
        Edges.wrongEvening("slip ^101");
        Edges.wrongEvening("slip ^");
        Edges.wrongEvening("slip ^-0");
    }

    private static void p04_minute0To999() {
        Edges.is(0, Check.evening("minute 5;minute 0").count(8));
        Edges.is(999, Check.evening("minute 999").count(8));
        Edges.wrongEvening("minute ^1000");
        Edges.wrongEvening("minute ^");
    }

    private static void p04_numbersOfOneToThreeDigits() {
        PencilUp x = Check.evening("word a often 001;writer speed 009 skill 000 tired 000;speech 000 00 0;tempo 004;slip 005;minute 06");
        Edges.is(1, x.word(0, 1));
        Edges.is(9, x.writer(0, 1));
        Edges.is(3, x.count(4));
        Edges.is(4, x.count(6));
        Edges.is(5, x.count(7));
        Edges.is(6, x.count(8));
        Edges.wrongEvening("tempo ^0004");
        Edges.wrongEvening("minute ^0000");
        Edges.wrongEvening("slip ^99999999999999999999");
        // 4294967301 is 5 to an int that goes round.
        Edges.wrongEvening("slip ^4294967301");
    }

    private static void p04_wordsAreAsLongAsAToZGoOn() {
        Edges.wrongEvening("^tempos 3");
        Edges.wrongEvening("^temp 3");
        Edges.wrongEvening("^wordab often 1");
        Edges.wrongEvening("^Tempo 3");
        Edges.wrongEvening("word ab ^oftenz 1");
        Edges.wrongEvening("word ab ^ofte 1");
        Edges.wrongEvening("word ^aboften 1");
        Edges.wrongEvening("writer ^speeds 1");
    }

    private static void p04_everyLetterOfAWordCounts() {
        String[] texts = {"^word a often 1", "word a ^often 1", "^writer speed 1", "writer ^speed 1", "writer speed 1 ^skill 1",
            "writer speed 1 ^tired 1", "writer speed 1 ^leaves a", "word a often 1;^speech 0", "^tempo 1", "^slip 1", "^minute 1"};
        for (String text : texts) {
            int at = text.indexOf('^');
            Edges.is(1, Check.evening(text.replace("^", "")).count(2));
            for (int k = at + 1; k < text.length() && text.charAt(k) != ' '; k++) {
                char other = text.charAt(k) == 'z' ? 'y' : 'z';
                Edges.wrongEvening(text.substring(0, k) + other + text.substring(k + 1));
                Edges.wrongEvening(text.substring(0, k) + text.substring(k + 1));
            }
        }
    }

    private static void p04_blanksMayStandBetweenAllAheadAndBehind() {
        PencilUp x = Check.evening("   word   ab   often   5   ;   writer   speed   2   skill   3   tired   4   leaves   b   ;   speech   0   0   ;   tempo   6   ");
        Edges.is(2, x.word(0, 0));
        Edges.is(4, x.writer(0, 3));
        Edges.is(2, x.count(4));
        Edges.is(6, x.count(6));
    }

    private static void p04_blanksMayBeMissingWhereThingsEndByThemselves() {
        PencilUp x = Check.evening("word ab often5;writer speed2skill3tired4leaves b;speech0 0;tempo6");
        Edges.is(5, x.word(0, 1));
        Edges.is(3, x.writer(0, 2));
        Edges.is(4, x.writer(0, 3));
        Edges.is(2, x.count(4));
        Edges.is(6, x.count(6));
    }

    private static void p04_noOtherSignIsABlank() {
        for (int sign : new int[] {0, 9, 10, 13, 31, 33, 127, 160, 255}) {
            Edges.wrongEvening("tempo" + "^" + (char) sign + "3");
            Edges.wrongEvening("^" + (char) sign);
            Edges.wrongEvening("tempo 3^" + (char) sign);
        }
    }

    private static void p04_ofAWrongTextNothingStays() {
        Edges.On read = x -> {
            x.end(0);
            Check.tell(x, "word d often 1;writer speed 1;speech 4 4;tempo 9;slip 9;minute 9;tempo 0");
            return x.evening();
        };
        PencilUp x = Edges.rich();
        Edges.fails(Edges.NONE_SUCH, () -> read.answer(x));
        Edges.is(71, x.fault());
        PencilUp other = Edges.rich();
        other.end(0);
        Edges.same(other, x, false);
    }

    private static void p04_aWordOfAWrongTextLeavesNoLettersBehind() {
        PencilUp x = new PencilUp();
        Edges.wrongEvening(x, "word hhhhhh often 99;writer speed 9 skill 9 tired 99 leaves abc;tempo ^0");
        Edges.more(x, "word a often 1;writer speed 1");
        Edges.is(1, x.word(0, 0));
        Edges.is(0, x.letter(0, 0));
        Edges.is(PencilUp.NONE, x.letter(0, 1));
        Edges.is(1, x.word(0, 1));
        Edges.is(0, x.writer(0, 0) + x.writer(0, 2) + x.writer(0, 3));
    }

    private static void p04_aWriterOfALaterTextMissedWhatWasSaid() {
        PencilUp x = Check.evening("word a often 1;writer speed 9;speech 0 0");
        x.minutes(1);
        Edges.more(x, "writer speed 9");
        Edges.is(0, x.page(1, 0));
        Edges.is(PencilUp.NONE, x.page(1, 1));
        Edges.is(1, x.page(0, 0));
        x.minutes(1);
        Edges.is(1, x.page(1, 1));
        Edges.is("no row of the log for what was said ahead", 1, x.led(1, false));
    }

    // ---- 5: the law ----

    private static void p05_anEmptyLawAndBlanksAlone() {
        PencilUp x = Check.evening("word a often 1;writer speed 1", "slip 9");
        Edges.is(0, x.law());
        Edges.is(0, x.count(3));
        Edges.is(0, x.slips(0, 0));
        Edges.readLaw(x, "slip 9");
        Edges.is(0, Edges.readLaw(x, BLANKS));
        Edges.is(0, x.slips(0, 0));
    }

    private static void p05_inPlaceOfTheOneBefore() {
        PencilUp x = Check.evening("word a often 1;writer speed 1", "slip 9;slip 8;slip 7");
        Edges.is(24, x.slips(0, 0));
        Edges.is(1, Edges.readLaw(x, "slip 2"));
        Edges.is(2, x.slips(0, 0));
        Edges.is(1, x.count(3));
    }

    private static void p05_twelveLinesAndA13th() {
        PencilUp x = Check.evening("word a often 1;writer speed 1");
        Edges.is(12, Edges.readLaw(x, "slip 1;".repeat(11) + "slip 2"));
        Edges.is(13, x.slips(0, 0));
        Edges.wrongLaw("slip 1;".repeat(12) + "^slip 1");
        Edges.wrongLaw("slip 1;".repeat(12) + " ^tire 1");
        Edges.wrongLaw("slip 1;".repeat(12) + "^");
        Edges.wrongLaw("slip 1;".repeat(12) + "^;");
    }

    private static void p05_lawsAreNotCountedButInPlaceOfOneAnother() {
        PencilUp x = new PencilUp();
        for (int k = 0; k < 20; k++) {
            Edges.is(1, Edges.readLaw(x, "slip 1"));
        }
        Edges.is(0, x.count(2));
    }

    private static void p05_n0To99() {
        for (String kind : new String[] {"tire ", "rest ", "slip "}) {
            PencilUp x = new PencilUp();
            Edges.is(2, Edges.readLaw(x, kind + "0;" + kind + "99"));
            Edges.is(1, Edges.readLaw(x, kind + "099"));
            Edges.wrongLaw(kind + "^100");
            Edges.wrongLaw(kind + "^0099");
            Edges.wrongLaw(kind + "^");
            Edges.wrongLaw(kind + "^if kept");
        }
    }

    private static void p05_numbersOfASumTo999() {
        PencilUp x = Check.evening("word a often 1;writer speed 1");
        Edges.readLaw(x, "slip 1 if 999>998;slip 2 if 0<001;slip 4 if 999+999+999>999+999+998");
        Edges.is(7, x.slips(0, 0));
        Edges.wrongLaw("slip 1 if ^1000>1");
        Edges.wrongLaw("slip 1 if 1>^0001");
        Edges.wrongLaw("slip 1 if 1+^1000>1");
    }

    private static void p05_aLineMustComeBehindAndAheadOfEachSemicolon() {
        Edges.wrongLaw("^;");
        Edges.wrongLaw("slip 1;^");
        Edges.wrongLaw("slip 1; ^");
        Edges.wrongLaw("slip 1;^;slip 1");
        Edges.wrongLaw("slip 1 ^slip 1");
        Edges.wrongLaw("slip 1 ^kept");
        Edges.wrongLaw("slip 1 ^iff kept");
        Edges.wrongLaw("^slips 1");
        Edges.wrongLaw("^word a often 1");
        Edges.wrongLaw("^tempo 1");
        Edges.wrongLaw("^1");
    }

    private static void p05_moreMustCome() {
        for (String text : new String[] {"slip", "slip 1 if", "slip 1 if not", "slip 1 if (", "slip 1 if (kept", "slip 1 if 1",
            "slip 1 if 1<", "slip 1 if 1>", "slip 1 if 1+", "slip 1 if 1<1+", "slip 1 if kept and", "slip 1 if kept or",
            "slip 1 if (kept and", "slip 1 if word"}) {
            Edges.wrongLaw(text + "^");
            Edges.wrongLaw(text + "   ^");
        }
    }

    private static void p05_whatCannotStandInACondition() {
        Edges.wrongLaw("slip 1 if ^;");
        Edges.wrongLaw("slip 1 if ^and kept");
        Edges.wrongLaw("slip 1 if ^)");
        Edges.wrongLaw("slip 1 if (^)");
        Edges.wrongLaw("slip 1 if kept^)");
        Edges.wrongLaw("slip 1 if kept ^sure");
        Edges.wrongLaw("slip 1 if kept^<1");
        Edges.wrongLaw("slip 1 if 1<^kept");
        Edges.wrongLaw("slip 1 if 1<^(1)");
        Edges.wrongLaw("slip 1 if (1^)<1");
        Edges.wrongLaw("slip 1 if 1<1^<1");
        Edges.wrongLaw("slip 1 if 1<^<1");
        Edges.wrongLaw("slip 1 if 1<^=1");
        Edges.wrongLaw("slip 1 if 1^=1");
        Edges.wrongLaw("slip 1 if 1^-1<1");
        Edges.wrongLaw("slip 1 if ^-1<1");
        Edges.wrongLaw("slip 1 if ^+1<1");
        Edges.wrongLaw("slip 1 if ^often<1");
        Edges.wrongLaw("slip 1 if ^slip<1");
        Edges.wrongLaw("slip 1 if kept and ^or sure");
        Edges.wrongLaw("slip 1 if kept or ^;");
        Edges.wrongLaw("slip 1 if ^nots kept");
        Edges.wrongLaw("slip 1 if 1 ^2<3");
    }

    private static void p05_bracketsSixDeepAndA7th() {
        PencilUp x = Check.evening("word a often 1;writer speed 1");
        Edges.readLaw(x, "slip 1 if ((((((kept))))))");
        Edges.is(1, x.slips(0, 0));
        Edges.wrongLaw("slip 1 if ((((((^(kept)))))))");
        Edges.wrongLaw("slip 1 if (((((( ^( kept");
    }

    private static void p05_notsSixDeepAndA7th() {
        PencilUp x = Check.evening("word a often 1;writer speed 1");
        Edges.readLaw(x, "slip 1 if not not not not not not kept;slip 2 if not not not not not kept");
        Edges.is(1, x.slips(0, 0));
        Edges.wrongLaw("slip 1 if not not not not not not ^not kept");
    }

    private static void p05_bracketsAndNotsWithinOneAnotherCountTogether() {
        PencilUp x = Check.evening("word a often 1;writer speed 1");
        Edges.readLaw(x, "slip 1 if not(not(not(kept)));slip 2 if (not(not(not 1<0)))");
        Edges.is("three nots turn both", 2, x.slips(0, 0));
        Edges.wrongLaw("slip 1 if not(not(not(^not kept)))");
        Edges.wrongLaw("slip 1 if not(not(not(^(kept))))");
        Edges.wrongLaw("slip 1 if kept and ((((((kept or ^not kept))))))");
        Edges.wrongLaw("slip 1 if ((((((kept)))))) and ((((((^(kept)))))))");
    }

    private static void p05_besideOneAnotherTheyAreNotDeeper() {
        PencilUp x = Check.evening("word a often 1;writer speed 1");
        Edges.readLaw(x, "slip 1 if ((((((kept)))))) and not not not not not not kept and (kept) and (kept) and not (not kept)"
            + ";slip 2 if ((((((kept)))))) or ((((((kept))))))");
        Edges.is(3, x.slips(0, 0));
        Edges.is(2, Edges.readLaw(x, "slip 1 if (((((not kept or not kept)))));slip 2 if (((((not kept)))) or (((not kept)))) or kept"));
        Edges.is(2, x.slips(0, 0));
    }

    private static void p05_lessAndMoreAreNotEqual() {
        PencilUp x = Check.evening("word abc often 1;writer speed 2 skill 0 tired 3");
        Edges.readLaw(x, "slip 1 if 3<3;slip 2 if 3>3;slip 4 if 2<3;slip 8 if 3>2;slip 16 if 2>3;slip 32 if 3<2");
        Edges.is(12, x.slips(0, 0));
        Edges.readLaw(x, "slip 1 if 1+2<3;slip 2 if 1+2>2;slip 4 if letters>tired;slip 8 if letters<tired+1");
        Edges.is(10, x.slips(0, 0));
    }

    private static void p05_andBindsBeforeOr() {
        PencilUp x = Check.evening("word a often 1;writer speed 1");
        // "1<0 and 1<0 or kept" holds; were "or" first, it would not.
        Edges.readLaw(x, "slip 1 if 1<0 and 1<0 or kept;slip 2 if kept or 1<0 and 1<0;slip 4 if 1<0 and (1<0 or kept)"
            + ";slip 8 if (kept or 1<0) and 1<0;slip 16 if not kept or kept;slip 32 if not (kept or kept)");
        Edges.is(1 + 2 + 16, x.slips(0, 0));
    }

    private static void p05_partsOfASumTellWriterAndWord() {
        PencilUp x = Check.evening("word abc often 9;word abd often 9;word e often 1;writer speed 4 skill 0 tired 7 leaves ab;writer speed 4 skill 0 tired 8 leaves e");
        Edges.readLaw(x, "slip 1 if writer<1;slip 2 if word>0 and word<2;slip 4 if strokes<2 and 0<strokes;slip 8 if letters>2 and letters<4"
            + ";slip 16 if speed>3 and speed<5;slip 32 if tired>6 and tired<8");
        Edges.is(63, x.slips(0, 1));
        Edges.is(16, x.slips(1, 2));
        Edges.readLaw(x, "slip 1 if kept;slip 2 if sure;slip 4 if strokes<1;slip 8 if skill>0");
        Edges.is("left out in part, and alone", 2, x.slips(0, 1));
        Edges.is("kept and alone", 3, x.slips(0, 2));
        Edges.is("nothing left, but alone", 2 + 4, x.slips(1, 2));
        x.learn(0);
        Edges.is("skill 1 takes 5", 2 + 8 - 5, x.slips(0, 1));
    }

    private static void p05_sureIsOneWhoseMarkNoOtherHas() {
        PencilUp x = Check.evening("word ab often 1;word b often 1;writer speed 1;writer speed 1 leaves a", "slip 5 if sure");
        Edges.is(5, x.slips(0, 0));
        Edges.is(0, x.slips(1, 0));
        Edges.is(0, x.slips(1, 1));
    }

    private static void p05_blanksMayBeMissing() {
        PencilUp x = Check.evening("word a often 1;writer speed 1");
        Edges.is(3, Edges.readLaw(x, "slip1if(kept)and(sure);slip2if not(1<0);slip4if 1<2and 2<3or(kept)"));
        Edges.is(7, x.slips(0, 0));
        Edges.is(1, Edges.readLaw(x, "  slip  9  if  (  not  (  1  +  1  >  2  )  )  "));
        Edges.is(9, x.slips(0, 0));
        Edges.wrongLaw("slip 1 if ^notkept");
        Edges.wrongLaw("slip 1 if 1<2 ^andkept");
        Edges.wrongLaw("slip 1 ^ifkept");
    }

    private static void p05_everyLetterOfAWordCounts() {
        String[] texts = {"^tire 1", "^rest 1", "^slip 1", "slip 1 ^if kept", "slip 1 if ^kept", "slip 1 if ^sure", "slip 1 if ^not kept",
            "slip 1 if kept ^and kept", "slip 1 if kept ^or kept", "slip 1 if ^writer<1", "slip 1 if ^word<1", "slip 1 if ^strokes<1",
            "slip 1 if ^letters<1", "slip 1 if ^speed<1", "slip 1 if ^skill<1", "slip 1 if ^tired<1"};
        for (String text : texts) {
            int at = text.indexOf('^');
            Edges.is(1, Edges.readLaw(new PencilUp(), text.replace("^", "")));
            for (int k = at + 1; k < text.length() && text.charAt(k) >= 'a'; k++) {
                Edges.wrongLaw(text.substring(0, k) + 'z' + text.substring(k + 1));
                Edges.wrongLaw(text.substring(0, k) + text.substring(k + 1));
            }
        }
    }

    private static void p05_aConditionThatFillsTheTape() {
        PencilUp x = Check.evening("word a often 1;writer speed 1");
        String sum = "slip 1 if " + "1+".repeat(191) + "1";
        Edges.is(1, Edges.readLaw(x, sum + ">191"));
        Edges.is(1, x.slips(0, 0));
        Edges.is(1, Edges.readLaw(x, sum + ">192"));
        Edges.is(0, x.slips(0, 0));
        String atoms = "slip 1 if " + "1<0or ".repeat(64) + "0<1";
        Edges.is(1, Edges.readLaw(x, atoms));
        Edges.is(1, x.slips(0, 0));
        String all = "slip 1 if " + "0<1and ".repeat(54) + "1<0";
        Edges.is(1, Edges.readLaw(x, all));
        Edges.is(0, x.slips(0, 0));
    }

    private static void p05_theDeepestConditionWithTheMostOpen() {
        PencilUp x = Check.evening("word a often 1;writer speed 1");
        String open = "1<0 or 0<1 and(";
        Edges.is(1, Edges.readLaw(x, "slip 1 if " + open.repeat(6) + "1<0 or 0<1 and 1+1<1+1+1" + ")".repeat(6)));
        Edges.is(1, x.slips(0, 0));
        Edges.is(1, Edges.readLaw(x, "slip 1 if " + open.repeat(6) + "1<0 or 0<1 and 1+1<1+1+0" + ")".repeat(6)));
        Edges.is(0, x.slips(0, 0));
    }

    private static void p05_aWrongLawLeavesTheOneBeforeAndAllElse() {
        PencilUp x = Edges.rich();
        x.end(0);
        Check.tell(x, "slip 99;tire 99;rest 99;slip");
        Edges.fails(Edges.NONE_SUCH, () -> x.law());
        Edges.is(28, x.fault());
        PencilUp other = Edges.rich();
        other.end(0);
        Edges.same(other, x, false);
    }

    private static void p05_aWrongFirstLawLeavesNone() {
        PencilUp x = new PencilUp();
        Check.tell(x, "slip 1;slip");
        Edges.fails(Edges.NONE_SUCH, () -> x.law());
        Edges.is(PencilUp.NONE, x.count(3));
    }

    // ---- 6: fault ----

    private static void p06_noneAheadOfAnyText() {
        PencilUp x = new PencilUp();
        Edges.is(PencilUp.NONE, x.fault());
        Check.tell(x, "tempo 0");
        Edges.is(PencilUp.NONE, x.fault());
    }

    private static void p06_theFirstByteAndTheTextsLength() {
        Edges.wrongEvening("^?");
        Edges.wrongEvening(BLANKS.substring(0, 399) + "^?");
        Edges.wrongEvening(BLANKS.substring(0, 395) + "tempo^");
        Edges.wrongLaw("^?");
        Edges.wrongLaw(BLANKS.substring(0, 396) + "slip^");
    }

    private static void p06_ofSeveralWrongBytesTheFirst() {
        Edges.wrongEvening("tempo ^0;slip 101;x");
        Edges.wrongEvening("word ^abi often 0");
        Edges.wrongEvening("slip 100;slip ^101;tempo 0");
        Edges.wrongLaw("slip ^100 if 1000<1");
        Edges.wrongLaw("slip 1 if ((((((^((kept");
    }

    private static void p06_noneBehindARightText() {
        PencilUp x = new PencilUp();
        Edges.wrongEvening(x, "tempo ^0");
        Edges.more(x, "tempo 1");
        Edges.is(PencilUp.NONE, x.fault());
        Edges.wrongEvening(x, "tempo ^0");
        Edges.readLaw(x, "slip 1");
        Edges.is(PencilUp.NONE, x.fault());
        Check.tell(x, "slip");
        Edges.fails(Edges.NONE_SUCH, () -> x.law());
        Edges.is(4, x.fault());
        x.evening();
        Edges.is("an empty text is a right one", PencilUp.NONE, x.fault());
    }

    private static void p06_rowsAreNoText() {
        PencilUp x = new PencilUp();
        Edges.wrongEvening(x, "slip 5;tempo ^0");
        Edges.On[] rows = {PencilUp::heard, PencilUp::likely, PencilUp::look, y -> y.hand(false), PencilUp::ask, PencilUp::whose};
        for (Edges.On row : rows) {
            row.answer(x);
            Edges.is(13, x.fault());
            Check.tell(x, "abc");
            Edges.fails(Edges.NONE_SUCH, () -> row.answer(x));
            Edges.is(13, x.fault());
        }
    }

    private static void p06_undoAndBackLeaveIt() {
        PencilUp x = new PencilUp();
        x.image();
        x.tempo(5);
        Edges.wrongEvening(x, "slip 5;tempo ^0");
        x.undo();
        Edges.is(13, x.fault());
        x.back();
        Edges.is(13, x.fault());
    }

    private static void p06_aRight13thTextIsReadToo() {
        PencilUp x = told(12);
        Edges.wrongEvening(x, "slip 5;tempo ^0");
        Check.tell(x, "slip 5");
        Edges.fails(Edges.NO_MORE, () -> x.evening());
        Edges.is(PencilUp.NONE, x.fault());
    }
}
