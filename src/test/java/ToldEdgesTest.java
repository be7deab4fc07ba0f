/** The edges of promises 1 to 7, what is told: a test for each sentence that names one. */
public final class ToldEdgesTest extends TestKit {
    private static final String SEVEN = times("alley1 1 1;", 7);
    private static final String EIGHT = SEVEN + "alley1 1 1;";
    private static final String FOURTEEN = times("town;", 13) + "town";

    /** Much is done here: two days, a hose, a poll; two are kept, two are seen. */
    private static RainBallot busy() {
        RainBallot x = of("garden 20 5 3;orchard 8 4 9;laundry 9 7 4;slope 0 1");
        x.day();
        x.keep(0);
        x.day();
        x.hose(1, 5);
        x.poll(2, 1);
        x.keep(1);
        x.seen(0, 1);
        x.seen(NONE, 4);
        return x;
    }

    // ---- promise 1

    @Says("No streets.")
    static void promise01_noStreets() {
        RainBallot x = new RainBallot();
        due(x.count(0), 0);
        due(x.count(4), 0);
        due(x.count(5), 0);
        refused(x, UNKNOWN, () -> x.street(0, 0), () -> x.as(0, 0), () -> x.hose(0, 1), () -> x.poll(0, 0),
            () -> x.wet(0, 0), () -> x.carry(0), () -> x.reach(0), () -> x.seen(0, 1), () -> x.polls(0),
            () -> x.chance(0, 0, 0));
        RainBallot one = of("alley 3 4 5");
        due(one.count(0), 1);
        due(one.street(0, 1), 3);
        due(one.as(0, 0), 3);
        due(one.wet(0, 0), 5);
        due(one.carry(0), NONE);
        due(one.reach(0), 1);
        due(one.seen(0, 1), 1);
        due(one.polls(0), 0);
        due(one.chance(0, 0, 0), 0);
        due(one.hose(0, 1), 6);
        due(one.poll(0, 0), 4);
    }

    @Says("The CAP is 5 .. 99 (30 at first), INCHES are 1 .. 20 (8 at first).")
    static void promise01_capAndInchesAtFirst() {
        RainBallot x = new RainBallot();
        due(x.count(2), 30);
        due(x.count(3), 8);
        tell(x, "cap 31;inches 9");
        due(x.count(2), 31);
        due(x.count(3), 9);
    }

    @Says("Behind them it is DAY 0")
    static void promise01_nothingIsDoneAtFirst() {
        RainBallot x = new RainBallot();
        due(x.count(1), 0);
        due(x.count(6), NONE);
        due(x.count(7), 0);
        due(x.count(8), 0);
        due(x.count(9), 0);
        refused(x, NOT, x::town, x::undo, () -> x.back(0), () -> x.back(1));
        refused(x, 0, x::erase, x::fault, x::forget);
    }

    @Says("it rains on the square")
    static void promise01_aTownWithoutStreetsHasDays() {
        RainBallot x = new RainBallot();
        foretold(x, NONE, () -> x.where(1));
        foretold(x, NONE, () -> x.where(30));
        foretold(x, NONE, () -> x.month(4, NONE));
        foretold(x, 1, () -> x.chance(NONE, 10, 0));
        due(x.seen(NONE, 20), 1);
        due(x.keep(1), 0);
        due(x.day(), NONE);
        due(x.count(1), 1);
        due(x.back(1), 0);
        due(x.count(1), 0);
    }

    @Says("An object is used for at most 512 calls after it has been made")
    static void promise01_holdsFor512Calls() {
        RainBallot x = new RainBallot();
        for (int call = 1; call <= 511; call++) due(x.day(), NONE);
        due(x.count(1), 511);
        RainBallot letters = new RainBallot();
        for (int call = 1; call <= 511; call++) letters.write(call & 255);
        due(letters.count(9), 160);
    }

    // ---- promise 2

    @Says("A letter (its number, 0 .. 255) more of THE TEXT")
    static void promise02_aLetterIs0To255() {
        RainBallot x = new RainBallot();
        refused(x, OUTSIDE, () -> x.write(-1), () -> x.write(256), () -> x.write(LEAST), () -> x.write(MOST));
        due(x.write(0), 1);
        due(x.write(255), 2);
        for (int letter = 0; letter < 128; letter++) due(x.write(letter * 2), letter + 3);
    }

    @Says("A letter (its number, 0 .. 255) more of THE TEXT")
    static void promise02_aLettersNumberDoesNotWrapAround() {
        RainBallot x = new RainBallot();
        refused(x, OUTSIDE, () -> x.write('t' + 256), () -> x.write('t' - 256), () -> x.write('t' + 65536),
            () -> x.write('t' - 65536), () -> x.write(-120));
        due(x.write('t'), 1);
        write(x, "own");
        due(x.fault(), NONE);
    }

    @Says("THE TEXT is a row of letters, 160 at most")
    static void promise02_theTextHas160LettersAtMost() {
        RainBallot x = new RainBallot();
        write(x, "town" + times(" ", 154));
        due(x.write(' '), 159);
        due(x.write(' '), 160);
        refused(x, FULL, () -> x.write(';'), () -> x.write(0), () -> x.write(255));
        due(x.fault(), NONE);
        due(x.erase(), 160);
        due(x.write('x'), 1);
    }

    @Says("the first of these that fits")
    static void promise02_outsideGoesBeforeFull() {
        RainBallot x = new RainBallot();
        write(x, times("x", 160));
        refused(x, OUTSIDE, () -> x.write(-1), () -> x.write(256), () -> x.write(MOST));
        refused(x, FULL, () -> x.write(255));
    }

    // ---- promise 3

    @Says("THE TEXT is empty: how many letters it had.")
    static void promise03_anEmptyTextHadNone() {
        RainBallot x = new RainBallot();
        refused(x, 0, x::erase, x::erase);
        x.write('t');
        due(x.erase(), 1);
        due(x.erase(), 0);
        tell(x, "town");
        due(x.erase(), 0);
    }

    @Says("THE TEXT is empty: how many letters it had.")
    static void promise03_aFullTextHad160() {
        RainBallot x = new RainBallot();
        write(x, times("x", 159));
        due(x.erase(), 159);
        due(x.count(9), 0);
        write(x, times("x", 161));
        due(x.erase(), 160);
        due(x.count(9), 0);
        due(x.fault(), 0);
        due(x.write('x'), 1);
    }

    @Says("THE TEXT is empty: how many letters it had.")
    static void promise03_onlyTheText() {
        RainBallot x = busy();
        String ahead = state(x);
        write(x, "town;cap");
        due(x.erase(), 8);
        same("erase", state(x), ahead);
    }

    // ---- promise 4

    @Says("an empty TEXT ends too soon")
    static void promise04_anEmptyTextEndsTooSoon() {
        faultAt("^", " ^", "   ^", times(" ", 160) + "^");
        sound("town");
    }

    @Says("CLAUSES with ; between, 1 to 14")
    static void promise04_clausesAre1To14() {
        sound("town", "town;town", times("town;", 12) + "town", FOURTEEN);
        sound(EIGHT + "slope0 1;cap5;cap6;inches7;inches8;slope1 0");
        faultAt(FOURTEEN + "^;town", FOURTEEN + " ^town", times("town;", 13) + "^");
        faultAt(EIGHT + "slope0 1;cap5;cap6;inches7;inches8;slope1 0^;cap7");
    }

    @Says("behind the 14th no ; can stand")
    static void promise04_noSemicolonBehindThe14th() {
        faultAt(times("town;", 12) + "town;^", FOURTEEN + "^;", FOURTEEN + " ^;", FOURTEEN + "^;;", FOURTEEN + "^.");
        sound(FOURTEEN + " ");
    }

    @Says("CLAUSES with ; between")
    static void promise04_noClauseIsEmpty() {
        faultAt("^;", " ^;", "^;town", "town;^;town", "town; ^;", "town;^", "town; ^", "town ;  ^", "cap 9;inches 9;^");
        sound("town;town", " town ; town ");
    }

    @Says("CLAUSES with ; between")
    static void promise04_betweenClausesStandsASemicolon() {
        faultAt("town ^town", "cap 5 ^cap 5", "garden 1 1 1 ^garden 1 1 1", "town^5", "cap 5 ^5", "inches 5 ^5",
            "garden 1 1 1 ^1", "alley1 1 1;alley1 1 1;slope 0 1 ^1", "town^,town", "town^.");
        sound("town;town", "cap 5;cap 5", "garden 1 1 1;garden 1 1 1");
    }

    @Says("a ninth cannot stand there (at its word)")
    static void promise04_aNinthStreetIsAFault() {
        for (String kind : KINDS) {
            sound(SEVEN + kind + "1 1 1");
            faultAt(EIGHT + "^" + kind + "1 1 1", EIGHT + "^" + kind, EIGHT + "^" + kind + " 99 x");
            sound(EIGHT + "town;" + kind + "1 1 1");
        }
        sound(EIGHT + "cap 5");
    }

    @Says("what earlier texts told stays")
    static void promise04_streetsOfEarlierTextsCountForTheNinth() {
        RainBallot x = of(SEVEN + "cap 5");
        write(x, "laundry 1 1 1");
        due(x.fault(), NONE);
        write(x, ";laundry 1 1 1");
        due(x.fault(), 14);
        due(x.erase(), 27);
        tell(x, "garden 1 1 1");
        write(x, "cap 5;garden 1 1 1");
        due(x.fault(), 6);
        x.erase();
        write(x, "town;garden 1 1 1");
        due(x.fault(), NONE);
    }

    @Says("with a NEED (0 .. 20), VOTERS (0 .. 20), WATER (0 .. 99)")
    static void promise04_needIs0To20() {
        for (String kind : KINDS) {
            sound(kind + " 0 1 1", kind + " 20 1 1");
            faultAt(kind + " ^21 1 1", kind + " ^99 1 1", kind + " ^100 1 1", kind + " ^-1 1 1");
        }
    }

    @Says("with a NEED (0 .. 20), VOTERS (0 .. 20), WATER (0 .. 99)")
    static void promise04_votersAre0To20() {
        for (String kind : KINDS) {
            sound(kind + " 1 0 1", kind + " 1 20 1");
            faultAt(kind + " 1 ^21 1", kind + " 1 ^99 1", kind + " 1 ^100 1", kind + " 1 ^-1 1");
        }
    }

    @Says("with a NEED (0 .. 20), VOTERS (0 .. 20), WATER (0 .. 99)")
    static void promise04_waterIs0To99() {
        for (String kind : KINDS) {
            sound(kind + " 1 1 0", kind + " 1 1 21", kind + " 1 1 99");
            faultAt(kind + " 1 1 ^100", kind + " 1 1 ^-1");
        }
    }

    @Says("The CAP is 5 .. 99")
    static void promise04_capIs5To99() {
        sound("cap 5", "cap 99");
        faultAt("cap ^4", "cap ^0", "cap ^100", "cap ^-5");
    }

    @Says("INCHES are 1 .. 20")
    static void promise04_inchesAre1To20() {
        sound("inches 1", "inches 20");
        faultAt("inches ^0", "inches ^00", "inches ^21", "inches ^99", "inches ^100");
    }

    @Says("numbers of 1 or 2 digits")
    static void promise04_numbersHave1Or2Digits() {
        sound("cap 5", "cap 05", "inches 09", "garden 0 00 0", "garden 00 0 00", "garden 9 09 90");
        faultAt("cap ^005", "inches ^010", "garden ^000 0 0", "garden 0 ^000 0", "garden 0 0 ^000", "garden 0 0 ^099");
        faultAt("alley1 1 1;alley1 1 1;slope ^000 1", "alley1 1 1;alley1 1 1;slope 0 ^001");
        sound("alley1 1 1;alley1 1 1;slope 00 01");
    }

    @Says("a number out of its bounds, of more digits, also")
    static void promise04_longNumbersDoNotWrapAround() {
        // 2 to the 8th, 16th, 32nd and 64th, and 5 more.
        faultAt("cap ^261", "cap ^65541", "cap ^4294967301", "cap ^18446744073709551621");
        faultAt("garden ^4294967296 1 1", "garden 1 1 ^18446744073709551616", "cap ^" + times("0", 155) + "5");
        faultAt("alley1 1 1;alley1 1 1;slope ^4294967296 1", "alley1 1 1;alley1 1 1;slope 0 ^4294967297");
    }

    @Says("small letters a .. z, numbers of 1 or 2 digits, blanks (32)")
    static void promise04_anyOtherLetterStandsNowhere() {
        for (int letter = 0; letter < 256; letter++) {
            boolean small = letter >= 'a' && letter <= 'z';
            boolean digit = letter >= '0' && letter <= '9';
            char l = (char) letter;
            int behind = letter == ' ' ? NONE : letter == ';' ? 5 : small ? 0 : 4;
            due("town and " + letter, faultOf("town" + l), behind);
            due(letter + " and town", faultOf(l + "town"), letter == ' ' ? NONE : 0);
            int inNumber = digit ? 4 : letter == ' ' || letter == ';' ? 6 : 5;
            due("in a number " + letter, faultOf("cap 5" + l + "5"), inNumber);
            if (!small && !digit && letter != ' ') due("for a number " + letter, faultOf("cap" + l), 3);
        }
    }

    @Says("small letters a .. z")
    static void promise04_wordsAreOfSmallLetters() {
        faultAt("^Town", "^tOwn", "^towN", "^TOWN", "^Garden 1 1 1", "^CAP 5", "town^`", "town^{", "town^@", "town^[");
        faultAt("^towna", "^townz", "^tow", "^t", "^atown", "^ztown", "^a", "^z");
        faultAt("^gardens 1 1 1", "^garde 1 1 1", "^orchar 1 1 1", "^alleys 1 1 1", "^laundr 1 1 1", "^slop 0 1",
            "^slopes 0 1", "^ca 5", "^caps 5", "^inche 5", "^inchess 5", "^zown", "^zap 5");
        sound("town", "garden 1 1 1", "orchard 1 1 1", "alley 1 1 1", "laundry 1 1 1", "cap 5", "inches 5");
    }

    @Says("numbers of 1 or 2 digits")
    static void promise04_digitsAre0To9() {
        sound("cap 90", "cap 09", "cap 9", "inches 10", "inches 19");
        faultAt("cap 9^/", "cap 9^:", "cap ^/", "cap ^:", "cap ^a", "cap ^five", "cap 5^a");
    }

    @Says("blanks (32) may stand ahead of, between and behind TOKENS")
    static void promise04_blanksMayStandAnywhere() {
        sound("  town", "town  ", " town ; town ", "cap   5 ", " garden  1  2  3 ; alley 4 5 6 ", " cap5 ;inches6 ");
        sound(times(" ", 156) + "town", "town" + times(" ", 156));
        faultAt("^\ttown", "town^\t", "cap^\t5", "cap^\n5", "^\r", "town^\u001f", "town^!", "town^\u00a0", "town^\u0000");
        faultAt("^to wn", "^gar den 1 1 1", "cap 9 ^9");
    }

    @Says("none is needed but between two words, two numbers")
    static void promise04_blanksBetweenTwoWordsAndTwoNumbers() {
        sound("garden1 2 3", "cap5;inches5;town", "alley1 1 1;alley1 1 1;slope0 1");
        faultAt("^gardentown", "^capinches 5", "garden1 19^", "garden11 9^", "garden ^119", "alley1 1 1;alley1 1 1;slope01^");
        faultAt("cap5^inches5", "garden1 2 3^town");
    }

    @Says("A (told ahead) has a SLOPE")
    static void promise04_aSlopeIsFromAStreetToldAhead() {
        String two = "alley1 1 1;alley1 1 1;";
        sound(two + "slope 0 1", two + "slope 1 0", EIGHT + "slope 0 7", EIGHT + "slope 7 0", EIGHT + "slope 7 6");
        faultAt("slope ^0 1", "slope ^1 0", "alley1 1 1;slope ^1 0", two + "slope ^2 0", two + "slope ^99 0",
            EIGHT + "slope ^8 0", "slope ^0 1;" + two + "cap5", "alley1 1 1;slope ^1 0;alley1 1 1",
            two + "town;slope ^0 1", two + "town;alley1 1 1;slope ^1 0", two + "slope ^-1 0");
    }

    @Says("to B (told ahead, another one)")
    static void promise04_aSlopeIsToAnotherStreetToldAhead() {
        String two = "alley1 1 1;alley1 1 1;";
        faultAt("alley1 1 1;slope 0 ^0", "alley1 1 1;slope 0 ^1", two + "slope 0 ^0", two + "slope 1 ^1",
            two + "slope 0 ^2", two + "slope 1 ^2", two + "slope 1 ^99", EIGHT + "slope 7 ^7", EIGHT + "slope 0 ^8",
            "alley1 1 1;slope 0 ^1;alley1 1 1", two + "town;" + two + "slope 1 ^2");
        sound(two + "slope 0 1;slope 0 1", two + "town;" + two + "slope 1 0", two + "slope 0 1;slope 1 0");
    }

    @Says("what earlier texts told stays")
    static void promise04_streetsOfEarlierTextsAreToldAhead() {
        RainBallot x = of("alley 1 1 1");
        write(x, "slope 0 1;alley 1 1 1");
        due(x.fault(), 8);
        x.erase();
        write(x, "alley 1 1 1;slope 0 1;slope 1 0");
        due(x.fault(), NONE);
        x.erase();
        write(x, "town;alley 1 1 1;slope 0 1");
        due(x.fault(), 25);
        x.erase();
        write(x, "town;slope 0 1");
        due(x.fault(), 11);
    }

    @Says("or at the end, if it comes too soon")
    static void promise04_aTextMayEndTooSoon() {
        for (String kind : KINDS) {
            faultAt(kind + "^", kind + " ^", kind + " 1^", kind + " 1 ^", kind + " 1 1^", kind + " 1 1  ^");
            faultAt(kind + "^;", kind + " 1^;", kind + " 1 1 ^;");
        }
        faultAt("cap^", "cap  ^", "inches^", "inches ^", "slope^", "slope ^", "alley1 1 1;slope^", "alley1 1 1;slope 0^",
            "alley1 1 1;slope 0 ^", "alley1 1 1;alley1 1 1;slope 0 ^", "alley1 1 1;alley1 1 1;slope 1 ^;");
        sound("alley 1 1 1", "cap 5", "inches 5", "alley1 1 1;alley1 1 1;slope 1 0");
    }

    @Says("A FAULT is at the first TOKEN")
    static void promise04_theFirstOfSeveralFaults() {
        faultAt("garden ^21 21 100", "garden 1 ^21 100", "garden 1 1 ^100;", "cap ^4;inches 0;", "cap 5;inches ^0;x",
            "garden ^21", "^x y z", "slope ^0 0", "cap 5;^;;", "alley1 1 1;slope ^1 1");
    }

    @Says("the letter with which the TOKEN begins, or the length")
    static void promise04_thePlaceIs0To160() {
        faultAt("^x" + times(" ", 159), "^" + times("x", 160), "^" + times("5", 160));
        faultAt("town" + times(" ", 155) + "^5", "town" + times(" ", 155) + ";^", "town" + times(" ", 154) + "^55");
        faultAt(times(" ", 155) + "cap ^4", times(" ", 157) + "cap^", times(" ", 153) + "cap ^100", times(" ", 155) + "^towna");
        sound("town" + times(" ", 156), times(" ", 156) + "town", times(" ", 155) + "cap 5", times(" ", 154) + "cap 99");
    }

    @Says("The place of the FAULT (the letter with which the TOKEN begins, or the length); NONE.")
    static void promise04_itOnlyLooks() {
        RainBallot x = busy();
        write(x, "garden 1 1 1;cap 9;inches 9;slope 0 2;town");
        foretold(x, NONE, x::fault);
        write(x, ";;");
        foretold(x, 43, x::fault);
        due(x.count(0), 3);
        due(x.street(0, 4), 1);
        due(x.undo(), 3);
        due(x.back(0), 1);
    }

    // ---- promise 5

    @Says("NOT: it has a FAULT.")
    static void promise05_aTextWithAFaultIsNotDone() {
        RainBallot x = busy();
        write(x, "town;garden 1 1 1;cap 40;inches 3;garden 1 1 ");
        refused(x, NOT, x::town, x::town);
        due(x.count(0), 3);
        due(x.count(9), 45);
        due(x.undo(), 3);
        due(x.back(0), 1);
        due(x.back(1), 2);
        x.write('1');
        due(x.town(), 5);
        due(x.count(0), 2);
    }

    @Says("an empty TEXT ends too soon")
    static void promise05_anEmptyTextIsNotDone() {
        RainBallot x = busy();
        refused(x, NOT, x::town);
        x.write(' ');
        refused(x, NOT, x::town);
        due(x.back(1), 2);
        write(x, "town");
        due(x.town(), 1);
        refused(x, NOT, x::town);
    }

    @Says("THE TEXT's CLAUSES are done, and it is empty then: how many there were.")
    static void promise05_1To14ClausesAreDone() {
        RainBallot x = new RainBallot();
        write(x, "cap 9");
        due(x.town(), 1);
        due(x.count(9), 0);
        write(x, EIGHT + "slope0 1;cap5;cap6;inches7;inches9;slope1 0");
        due(x.town(), 14);
        due(x.count(9), 0);
        due(x.count(0), 8);
        due(x.count(2), 6);
        due(x.count(3), 9);
        due(x.street(1, 4), 0);
        write(x, FOURTEEN + ";cap 9");
        refused(x, NOT, x::town);
        due(x.count(0), 8);
    }

    @Says("STREETS are 0, 1 .. as they come, 8 at most")
    static void promise05_eightStreetsAtMost() {
        RainBallot x = of("garden 0 1 2;orchard 3 4 5;alley 6 7 8;laundry 9 10 11;garden 12 13 14;orchard 15 16 17;alley 18 19 20");
        due(x.count(0), 7);
        tell(x, "laundry 20 20 99");
        due(x.count(0), 8);
        for (int s = 0; s < 7; s++) {
            for (int what = 0; what < 4; what++) due(x.street(s, what), what == 0 ? s % 4 : 3 * s + what - 1);
        }
        due(x.street(7, 0) * 1000000 + x.street(7, 1) * 10000 + x.street(7, 2) * 100 + x.street(7, 3), 3202099);
        write(x, "garden 0 0 0");
        refused(x, NOT, x::town);
        due(x.count(0), 8);
    }

    @Says("in place of the one it had")
    static void promise05_aSlopeInPlaceOfAnother() {
        RainBallot x = of("alley 1 1 1;alley 1 1 1;alley 1 1 1");
        due(x.street(0, 4), NONE);
        tell(x, "slope 0 1");
        due(x.street(0, 4), 1);
        tell(x, "slope 0 2;slope 0 1;slope 0 2");
        due(x.street(0, 4), 2);
        due(x.street(1, 4), NONE);
        tell(x, "slope 2 0;slope 0 1;slope 1 0");
        due(x.street(0, 4) * 100 + x.street(1, 4) * 10 + x.street(2, 4), 100);
    }

    @Says("Each has a SLOPE to another one, or none (at first).")
    static void promise05_aNewStreetHasNoSlope() {
        RainBallot x = of("alley 1 1 1;alley 1 1 1;slope 0 1;slope 1 0");
        tell(x, "town;alley 1 1 1;alley 1 1 1");
        due(x.street(0, 4), NONE);
        due(x.street(1, 4), NONE);
        tell(x, "slope 1 0;garden 1 1 1");
        due(x.street(1, 4), 0);
        due(x.street(2, 4), NONE);
    }

    @Says("town: all as at first")
    static void promise05_townMakesAllAsAtFirst() {
        RainBallot x = busy();
        tell(x, "cap 77;inches 11");
        tell(x, "town");
        due(x.count(0), 0);
        due(x.count(2), 30);
        due(x.count(3), 8);
        refused(x, UNKNOWN, () -> x.street(0, 0));
        tell(x, EIGHT + "cap 5");
        due(x.count(0), 8);
    }

    @Says("CLAUSES are done in their order.")
    static void promise05_clausesInTheirOrder() {
        RainBallot x = of("cap 9;inches 9;garden 1 1 1;town");
        due(x.count(0), 0);
        due(x.count(2), 30);
        due(x.count(3), 8);
        tell(x, "alley 1 1 1;town;cap 9;cap 10;inches 9;inches 10;garden 2 2 2");
        due(x.count(0), 1);
        due(x.street(0, 0), 0);
        due(x.count(2), 10);
        due(x.count(3), 10);
    }

    @Says("what earlier texts told stays")
    static void promise05_earlierTextsStay() {
        RainBallot x = of("garden 1 2 3;alley 4 5 6;slope 0 1;cap 9;inches 7");
        tell(x, "laundry 7 8 9");
        due(x.count(0), 3);
        due(x.street(0, 0), 0);
        due(x.street(1, 1), 4);
        due(x.street(0, 4), 1);
        due(x.count(2), 9);
        due(x.count(3), 7);
    }

    @Says("WATER, VOTERS are as told (however they became)")
    static void promise05_waterAndVotersAreAsToldAgain() {
        RainBallot x = of("garden 20 5 3;alley 6 9 1");
        x.day();
        x.hose(1, 20);
        x.poll(0, 0);
        x.poll(1, 20);
        due(x.street(0, 3) * 100 + x.street(1, 3), 1020);
        tell(x, "cap 40");
        due(x.street(0, 3) * 100 + x.street(1, 3), 301);
        due(x.street(0, 2) * 100 + x.street(1, 2), 509);
    }

    @Says("it has not rained, nothing is SEEN, nothing is kept or can be undone")
    static void promise05_nothingIsDoneBehindAText() {
        RainBallot x = busy();
        due(x.count(1), 2);
        due(x.count(7), 2);
        due(x.count(8), 4);
        tell(x, "cap 40");
        due(x.count(1), 0);
        due(x.count(6), NONE);
        due(x.street(0, 6), 12);
        refused(x, 0, () -> x.count(7), x::forget, () -> x.count(8));
        refused(x, NOT, x::undo, () -> x.back(0), () -> x.back(1));
        for (int i = 1; i <= 6; i++) due(x.seen(0, i), i);
        refused(x, FULL, () -> x.seen(0, 7));
    }

    // ---- promise 6

    @Says("UNKNOWN (no such STREET)")
    static void promise06_streetsAreFrom0ToOneLessThanTheyAre() {
        RainBallot x = of("garden 1 1 1;orchard 1 1 1;alley 1 1 1");
        due(x.street(0, 0), 0);
        due(x.street(2, 0), 2);
        refused(x, UNKNOWN, () -> x.street(-1, 0), () -> x.street(3, 0), () -> x.street(8, 0), () -> x.street(32, 0),
            () -> x.street(LEAST, 0), () -> x.street(MOST, 0));
        RainBallot eight = of(SEVEN + "laundry 1 1 1");
        due(eight.street(7, 0), 3);
        refused(eight, UNKNOWN, () -> eight.street(8, 0), () -> eight.street(-1, 6), () -> eight.street(9, 5));
    }

    @Says("KIND (what 0), NEED (1), VOTERS (2), WATER (3), where its SLOPE goes (4; NONE), to whom it gives its votes now (5;")
    static void promise06_whatIs0To6() {
        RainBallot x = of("orchard 20 0 99;alley 0 0 0;slope 0 1");
        int[] told = {1, 20, 0, 99, 1, 1, 0};
        for (int what = 0; what < 7; what++) due("what " + what, x.street(0, what), told[what]);
        refused(x, OUTSIDE, () -> x.street(0, -1), () -> x.street(0, 7), () -> x.street(1, LEAST), () -> x.street(1, MOST));
    }

    @Says("the first of these that fits")
    static void promise06_unknownGoesBeforeOutside() {
        RainBallot x = of("garden 1 1 1");
        refused(x, UNKNOWN, () -> x.street(1, -1), () -> x.street(-1, 7), () -> x.street(1, 7));
        refused(x, OUTSIDE, () -> x.street(0, 7));
    }

    @Says("with a NEED (0 .. 20), VOTERS (0 .. 20), WATER (0 .. 99)")
    static void promise06_theLeastAndTheMostAreToldAsTheyAre() {
        RainBallot x = of("laundry 0 20 0;garden 20 0 99");
        due(x.street(0, 1), 0);
        due(x.street(0, 2), 20);
        due(x.street(0, 3), 0);
        due(x.street(1, 1), 20);
        due(x.street(1, 2), 0);
        due(x.street(1, 3), 99);
    }

    @Says("where its SLOPE goes (4; NONE)")
    static void promise06_aSlopeOrNone() {
        RainBallot x = of("alley 1 1 1;alley 1 1 1;slope 1 0");
        due(x.street(0, 4), NONE);
        due(x.street(1, 4), 0);
    }

    @Says("a GARDEN, if its WATER is less than it WANTS, to itself, else to the DRIEST of all")
    static void promise06_aGardenWithLessThanItWants() {
        RainBallot x = of("alley 0 0 2;garden 10 5 9;garden 10 5 10;garden 10 5 11;garden 0 5 3");
        due(x.street(1, 5), 1);
        due(x.street(2, 5), 0);
        due(x.street(3, 5), 0);
        due(x.street(4, 5), 0);
        due(of("garden 1 5 0").street(0, 5), 0);
        due(of("garden 0 5 0;alley 0 0 0").street(0, 5), 0);
        due(of("alley 0 0 0;garden 0 5 0").street(1, 5), 0);
    }

    @Says("an ORCHARD as a GARDEN")
    static void promise06_anOrchardWithLessThanItWants() {
        RainBallot x = of("alley 0 0 2;orchard 10 5 19;orchard 10 5 20;orchard 10 5 10;orchard 0 5 3");
        due(x.street(1, 5), 1);
        due(x.street(2, 5), 0);
        due(x.street(3, 5), 3);
        due(x.street(4, 5), 0);
    }

    @Says("an ALLEY does not VOTE")
    static void promise06_anAlleyGivesNoVotes() {
        RainBallot x = of("alley 20 20 0;alley 0 20 99");
        due(x.street(0, 5), NONE);
        due(x.street(1, 5), NONE);
        due(x.street(0, 6), 0);
        due(of("garden 20 20 0;alley 0 20 99").street(0, 5), 0);
    }

    @Says("a LAUNDRY to the DRIEST of all others (nobody, if there is none)")
    static void promise06_aLaundryAloneGivesToNobody() {
        due(of("laundry 5 5 0").street(0, 5), NONE);
        due(of("laundry 5 5 0").street(0, 6), 0);
        RainBallot two = of("laundry 5 5 0;laundry 5 6 99");
        due(two.street(0, 5), 1);
        due(two.street(1, 5), 0);
        due(two.street(0, 6), 6);
        RainBallot three = of("laundry 5 5 0;alley 0 0 9;alley 0 0 8");
        due(three.street(0, 5), 2);
    }

    @Says("The DRIEST of some STREETS is that with least WATER, of several the least.")
    static void promise06_theDriestOfSeveralIsTheLeast() {
        RainBallot x = of("laundry 0 1 3;alley 0 0 4;alley 0 0 3;alley 0 0 3;garden 0 2 9;laundry 0 4 3");
        due(x.street(0, 5), 2);
        due(x.street(4, 5), 0);
        due(x.street(5, 5), 0);
        x.hose(0, 1);
        due(x.street(4, 5), 2);
        RainBallot ends = of("garden 0 1 99;" + times("alley0 0 99;", 6) + "alley0 0 98");
        due(ends.street(0, 5), 7);
        ends.hose(7, 1);
        due(ends.street(0, 5), 0);
    }

    @Says("Votes for the STREET on which it rained the DAY before are left out.")
    static void promise06_votesAreLeftOutForOneDay() {
        RainBallot x = of("garden 20 5 0;garden 20 3 0");
        due(x.street(0, 6) * 10 + x.street(1, 6), 53);
        due(x.day(), 0);
        due(x.street(0, 6) * 10 + x.street(1, 6), 3);
        due(x.day(), 1);
        due(x.street(0, 6) * 10 + x.street(1, 6), 50);
        RainBallot alone = of("garden 20 5 0");
        due(alone.day(), 0);
        due(alone.street(0, 6), 0);
        due(alone.street(0, 5), 0);
        due(alone.day(), NONE);
        due(alone.street(0, 6), 5);
    }

    @Says("votes that it gets now (6; without those left out)")
    static void promise06_votesAre0To160() {
        RainBallot x = of("garden 20 20 0;" + times("laundry0 20 0;", 7) + "cap 5");
        due(x.street(0, 6), 160);
        due(x.street(1, 6), 0);
        x.day();
        due(x.street(0, 6), 0);
        due(of("garden 20 0 0").street(0, 6), 0);
        due(of("garden 20 1 0").street(0, 6), 1);
        due(of("garden 20 0 0").street(0, 5), 0);
    }

    // ---- promise 7

    @Says("UNKNOWN (no such STREET)")
    static void promise07_noSuchStreet() {
        RainBallot x = of("garden 3 1 1;alley 4 1 1");
        due(x.as(0, 0), 3);
        due(x.as(1, 0), 4);
        refused(x, UNKNOWN, () -> x.as(-1, 0), () -> x.as(2, 0), () -> x.as(8, 0), () -> x.as(LEAST, 0), () -> x.as(MOST, 0));
    }

    @Says("A STREET taken as a KIND (0 .. 4")
    static void promise07_aKindIs0To4() {
        RainBallot x = of("garden 3 1 1;laundry 4 1 1");
        due(x.as(0, 0), 3);
        due(x.as(1, 4), 0);
        refused(x, OUTSIDE, () -> x.as(0, -1), () -> x.as(0, 5), () -> x.as(1, LEAST), () -> x.as(1, MOST));
    }

    @Says("the first of these that fits")
    static void promise07_unknownOutsideNot() {
        RainBallot x = of("garden 3 1 1");
        refused(x, UNKNOWN, () -> x.as(1, 5), () -> x.as(-1, -1), () -> x.as(1, 2));
        refused(x, OUTSIDE, () -> x.as(0, 5));
        refused(x, NOT, () -> x.as(0, 2));
    }

    @Says("GARDEN (1) under it; ORCHARD (2) is GARDEN; ALLEY (3) is GARDEN; LAUNDRY (4) is a STREET.")
    static void promise07_notOfAKindThatItIsNot() {
        RainBallot x = of("garden 3 1 1;orchard 3 1 1;alley 3 1 1;laundry 3 1 1");
        int[][] under = {{3, 3, NOT, NOT, NOT}, {6, 6, 6, NOT, NOT}, {3, 3, NOT, 3, NOT}, {0, NOT, NOT, NOT, 0}};
        for (int s = 0; s < 4; s++) {
            for (int kind = 0; kind < 5; kind++) {
                int street = s;
                int taken = kind;
                foretold(x, under[s][kind], () -> x.as(street, taken));
            }
        }
    }

    @Says("A STREET WANTS as much WATER as its NEED, an ORCHARD twice that, a LAUNDRY none.")
    static void promise07_wantsOfTheLeastAndTheMostNeed() {
        int[] most = {20, 40, 20, 0};
        for (int kind = 0; kind < 4; kind++) {
            due(of(KINDS[kind] + " 0 1 1").as(0, 0), 0);
            due(of(KINDS[kind] + " 0 1 1").as(0, kind + 1), 0);
            due(of(KINDS[kind] + " 20 1 1").as(0, 0), most[kind]);
            due(of(KINDS[kind] + " 20 1 1").as(0, kind + 1), most[kind]);
        }
    }

    public static void main(String[] args) {
        run(ToldEdgesTest.class, 1, 7);
    }
}
