/** The edges of promises 14 to 18, what is foretold: a test for each sentence that names one. */
public final class ForetoldEdgesTest extends TestKit {
    /** A garden alone, with voters: it rains on it each second day. */
    private static final String ALONE = "garden 20 5 0";

    private static void row(RainBallot x, int many, int... streets) {
        int n = streets.length;
        foretold(x, many, () -> x.month(n, NONE));
        for (int k = 0; k < 4; k++) {
            int day = k;
            foretold(x, k < n ? streets[k] : NONE, () -> x.month(n, day));
        }
    }

    // ---- promise 14

    @Says("WHERE it rains on the n-th DAY (1 .. 30; 1: this one)")
    static void promise14_nIs1To30() {
        RainBallot x = of(ALONE);
        refused(x, OUTSIDE, () -> x.where(0), () -> x.where(31), () -> x.where(-1), () -> x.where(LEAST), () -> x.where(MOST));
        for (int n = 1; n <= 30; n++) {
            int day = n;
            foretold(x, n % 2 == 1 ? 0 : NONE, () -> x.where(day));
        }
        x.day();
        foretold(x, NONE, () -> x.where(1));
        foretold(x, NONE, () -> x.where(29));
        foretold(x, 0, () -> x.where(30));
        refused(x, OUTSIDE, () -> x.where(0), () -> x.where(31));
    }

    @Says("the STREET; none (the square)")
    static void promise14_onTheSquare() {
        RainBallot empty = new RainBallot();
        foretold(empty, NONE, () -> empty.where(1));
        foretold(empty, NONE, () -> empty.where(30));
        refused(empty, OUTSIDE, () -> empty.where(0), () -> empty.where(31));
        RainBallot x = of("garden 20 4 0;garden 20 4 0");
        foretold(x, NONE, () -> x.where(1));
        foretold(x, NONE, () -> x.where(30));
        x.poll(1, 5);
        foretold(x, 1, () -> x.where(1));
        foretold(x, 0, () -> x.where(2));
    }

    @Says("FORETOLD (nothing changes).")
    static void promise14_asItComes() {
        RainBallot x = of("cap 12;inches 9;garden 10 5 3;orchard 8 4 9;alley 6 9 1;laundry 9 7 4;slope 0 3;slope 3 2");
        int[] told = new int[31];
        for (int n = 1; n <= 30; n++) told[n] = x.where(n);
        due(x.count(1), 0);
        due(x.count(8), 0);
        for (int n = 1; n <= 30; n++) due("day " + n, x.day(), told[n]);
    }

    @Says("8 at most")
    static void promise14_theEighthStreet() {
        RainBallot x = of(times("alley0 0 9;", 7) + "garden20 5 0");
        foretold(x, 7, () -> x.where(1));
        foretold(x, NONE, () -> x.where(2));
        foretold(x, 7, () -> x.where(3));
        x.poll(7, 0);
        foretold(x, NONE, () -> x.where(1));
    }

    // ---- promise 15

    @Says("WET behind n DAYS (0 .. 30): WATER of a STREET.")
    static void promise15_nIs0To30() {
        RainBallot x = of("orchard 20 5 0;alley 0 0 40");
        refused(x, OUTSIDE, () -> x.wet(0, -1), () -> x.wet(0, 31), () -> x.wet(1, LEAST), () -> x.wet(1, MOST));
        foretold(x, 0, () -> x.wet(0, 0));
        foretold(x, 7, () -> x.wet(0, 1));
        foretold(x, 6, () -> x.wet(0, 2));
        foretold(x, 40, () -> x.wet(1, 0));
        foretold(x, 39, () -> x.wet(1, 1));
        foretold(x, 11, () -> x.wet(1, 29));
        foretold(x, 10, () -> x.wet(1, 30));
        x.hose(1, 1);
        foretold(x, 41, () -> x.wet(1, 0));
        foretold(x, 11, () -> x.wet(1, 30));
    }

    @Says("then each STREET has 1 less WATER (0 at least)")
    static void promise15_water0StaysAt0() {
        RainBallot x = of("alley 0 0 29;alley 0 0 30;alley 0 0 31;alley 0 0 0");
        int[] behind = {0, 0, 1, 0};
        for (int s = 0; s < 4; s++) {
            int street = s;
            foretold(x, behind[s], () -> x.wet(street, 30));
        }
        foretold(x, 0, () -> x.wet(0, 29));
        foretold(x, 1, () -> x.wet(1, 29));
        foretold(x, 0, () -> x.wet(3, 1));
    }

    @Says("UNKNOWN (no such STREET)")
    static void promise15_noSuchStreet() {
        RainBallot x = of("alley 0 0 5;alley 0 0 6");
        refused(x, UNKNOWN, () -> x.wet(-1, 0), () -> x.wet(2, 0), () -> x.wet(8, 30), () -> x.wet(LEAST, 1), () -> x.wet(MOST, 1));
        foretold(x, 5, () -> x.wet(0, 0));
        foretold(x, 6, () -> x.wet(1, 0));
    }

    @Says("the first of these that fits")
    static void promise15_unknownGoesBeforeOutside() {
        RainBallot x = of("alley 0 0 5");
        refused(x, UNKNOWN, () -> x.wet(1, -1), () -> x.wet(-1, 31));
        refused(x, OUTSIDE, () -> x.wet(0, 31));
    }

    @Says("8 at most")
    static void promise15_theEighthStreet() {
        RainBallot x = of(times("alley0 0 9;", 7) + "garden20 5 0");
        foretold(x, 0, () -> x.wet(7, 0));
        foretold(x, 7, () -> x.wet(7, 1));
        foretold(x, 8, () -> x.wet(6, 1));
        refused(x, UNKNOWN, () -> x.wet(8, 1));
    }

    // ---- promise 16

    @Says("UNKNOWN (no such STREET)")
    static void promise16_noSuchStreet() {
        RainBallot x = of("garden 20 1 0;garden 20 2 0");
        refused(x, UNKNOWN, () -> x.carry(-1), () -> x.carry(2), () -> x.carry(8), () -> x.carry(32), () -> x.carry(LEAST),
            () -> x.carry(MOST));
        foretold(x, 2, () -> x.carry(0));
        foretold(x, 0, () -> x.carry(1));
    }

    @Says("other STREETS (bits; none of them, too)")
    static void promise16_noneOfThemIsEnough() {
        RainBallot x = of("garden 20 3 0;garden 20 3 0;garden 20 1 0");
        foretold(x, 2, () -> x.carry(0));
        foretold(x, 1, () -> x.carry(1));
        x.poll(0, 4);
        foretold(x, 0, () -> x.carry(0));
        RainBallot alone = of("garden 20 1 0");
        foretold(alone, 0, () -> alone.carry(0));
        alone.poll(0, 0);
        foretold(alone, NONE, () -> alone.carry(0));
    }

    @Says("other STREETS (bits; none of them, too)")
    static void promise16_itIsNotOneOfTheOthers() {
        // Its own votes go to the driest; turned to itself they would do.
        RainBallot x = of("garden 0 9 5;alley 0 0 0");
        foretold(x, NONE, () -> x.carry(0));
        foretold(x, 0, () -> x.carry(1));
        tell(x, "laundry 0 1 9");
        foretold(x, NONE, () -> x.carry(0));
        x.poll(2, 9);
        foretold(x, NONE, () -> x.carry(0));
        x.poll(2, 10);
        foretold(x, 4, () -> x.carry(0));
    }

    @Says("that VOTE")
    static void promise16_anAlleyIsNotAmongThem() {
        RainBallot x = of("alley 0 0 0;alley 0 20 9;garden 20 1 0");
        foretold(x, 4, () -> x.carry(0));
        x.poll(2, 0);
        foretold(x, NONE, () -> x.carry(0));
        RainBallot alleys = of("alley 0 20 0;alley 0 20 9");
        foretold(alleys, NONE, () -> alleys.carry(0));
        foretold(alleys, NONE, () -> alleys.carry(1));
        RainBallot laundry = of("alley 0 0 9;laundry 0 1 9;alley 0 0 0");
        foretold(laundry, 2, () -> laundry.carry(0));
    }

    @Says("the fewest, of as few the least")
    static void promise16_theFewest() {
        RainBallot x = of("alley 0 0 9;garden 9 1 0;garden 9 1 0;garden 9 1 0;garden 9 3 0");
        foretold(x, 16, () -> x.carry(0));
        // By 4 alone it has 2, more than 1; when 4 has 1, too, one alone is not enough.
        x.poll(4, 2);
        foretold(x, 16, () -> x.carry(0));
        x.poll(4, 1);
        foretold(x, 2 + 4, () -> x.carry(0));
    }

    @Says("the fewest, of as few the least")
    static void promise16_ofAsFewTheLeast() {
        RainBallot x = of("alley 0 0 9;garden 9 2 0;garden 9 2 0;garden 9 2 0;garden 9 2 0");
        foretold(x, 2 + 4, () -> x.carry(0));
        foretold(x, 4, () -> x.carry(1));
        foretold(x, 2, () -> x.carry(2));
        foretold(x, 2, () -> x.carry(4));
        x.poll(1, 1);
        // By 1 and another it has 3, more than 2; when 1 has none it is of no use.
        foretold(x, 2 + 4, () -> x.carry(0));
        x.poll(1, 0);
        foretold(x, 4 + 8, () -> x.carry(0));
    }

    @Says("which has most votes, more than any other, and 1 or more")
    static void promise16_aTieIsNotEnough() {
        // By one of them it would have 3, as the other.
        RainBallot x = of("alley 0 0 0;garden 20 3 0;garden 20 3 0");
        foretold(x, 2 + 4, () -> x.carry(0));
        x.poll(1, 4);
        foretold(x, 2, () -> x.carry(0));
        x.poll(1, 3);
        x.poll(2, 4);
        foretold(x, 4, () -> x.carry(0));
        RainBallot left = of("garden 20 2 1;alley 0 0 0;laundry 0 2 9");
        foretold(left, 4, () -> left.carry(0));
        left.poll(2, 1);
        foretold(left, 0, () -> left.carry(0));
        due(of("alley 0 0 0;garden 20 0 0").carry(0), NONE);
    }

    @Says("none (also if it rained there the DAY before)")
    static void promise16_notWhereItRainedTheDayBefore() {
        RainBallot x = of("garden 20 5 0;garden 20 3 0");
        foretold(x, 0, () -> x.carry(0));
        x.day();
        foretold(x, NONE, () -> x.carry(0));
        foretold(x, 0, () -> x.carry(1));
        x.day();
        foretold(x, 0, () -> x.carry(0));
        foretold(x, NONE, () -> x.carry(1));
        x.undo();
        foretold(x, NONE, () -> x.carry(0));
        // A day with rain on the square forgets it.
        RainBallot alone = of(ALONE);
        alone.day();
        foretold(alone, NONE, () -> alone.carry(0));
        alone.day();
        foretold(alone, 0, () -> alone.carry(0));
    }

    @Says("if each of them gave its votes to it now")
    static void promise16_allTheOthers() {
        // 20 go to the driest; seven times 3 are one more, seven times 2 are not.
        RainBallot first = of("garden 0 20 9;" + times("garden 9 3 0;", 6) + "garden 9 3 0");
        foretold(first, 254, () -> first.carry(0));
        first.poll(7, 2);
        foretold(first, NONE, () -> first.carry(0));
        RainBallot last = of(times("garden 9 3 0;", 7) + "garden 0 20 9");
        foretold(last, 127, () -> last.carry(7));
        last.poll(0, 2);
        foretold(last, NONE, () -> last.carry(7));
    }

    @Says("other STREETS (bits; none of them, too)")
    static void promise16_theFirstAndTheLastStreet() {
        RainBallot x = of("garden 20 5 0;" + times("alley0 0 9;", 6) + "garden 20 4 0");
        foretold(x, 0, () -> x.carry(0));
        foretold(x, 1, () -> x.carry(7));
        foretold(x, 1, () -> x.carry(6));
        x.poll(7, 5);
        foretold(x, 128, () -> x.carry(0));
        x.poll(7, 6);
        foretold(x, 128, () -> x.carry(1));
    }

    // ---- promise 17

    @Says("UNKNOWN (no such STREET)")
    static void promise17_noSuchStreet() {
        RainBallot x = of("alley 0 0 0;alley 0 0 0");
        refused(x, UNKNOWN, () -> x.reach(-1), () -> x.reach(2), () -> x.reach(8), () -> x.reach(32), () -> x.reach(LEAST),
            () -> x.reach(MOST));
        foretold(x, 1, () -> x.reach(0));
        foretold(x, 2, () -> x.reach(1));
    }

    @Says("some of it would come to that one (it itself, too)")
    static void promise17_itItself() {
        RainBallot x = of("inches 1;cap 5;alley 0 0 99");
        foretold(x, 1, () -> x.reach(0));
        RainBallot eight = of(times("alley0 0 0;", 7) + "alley0 0 99");
        for (int s = 0; s < 8; s++) {
            int street = s;
            foretold(eight, 1 << s, () -> eight.reach(street));
        }
    }

    @Says("all that is above the CAP then runs")
    static void promise17_nothingRunsAtTheCap() {
        RainBallot x = of("cap 10;inches 5;alley 0 0 4;alley 0 0 0;slope 0 1");
        foretold(x, 2, () -> x.reach(1));
        x.hose(0, 1);
        foretold(x, 2, () -> x.reach(1));
        x.hose(0, 1);
        foretold(x, 1 + 2, () -> x.reach(1));
        foretold(x, 1, () -> x.reach(0));
    }

    @Says("and falls there, and so on")
    static void promise17_byOneBetween() {
        // 3 come to 1: at 7 that is the CAP, at 8 it is 1 more.
        RainBallot x = of("cap 10;inches 5;alley 0 0 8;alley 0 0 7;alley 0 0 0;slope 0 1;slope 1 2");
        foretold(x, 2 + 4, () -> x.reach(2));
        foretold(x, 1 + 2, () -> x.reach(1));
        x.hose(1, 1);
        foretold(x, 1 + 2 + 4, () -> x.reach(2));
    }

    @Says("it is gone, if there is no SLOPE")
    static void promise17_withoutSlope() {
        RainBallot x = of("cap 5;inches 20;alley 0 0 99;alley 0 0 99;slope 1 0");
        foretold(x, 3, () -> x.reach(0));
        foretold(x, 2, () -> x.reach(1));
        tell(x, "slope 0 1");
        foretold(x, 3, () -> x.reach(1));
    }

    @Says("or it would come to a STREET on which some of it fell already")
    static void promise17_intoARing() {
        RainBallot x = of("alley 0 0 30;alley 0 0 30;alley 0 0 30;slope 0 1;slope 1 2;slope 2 1");
        foretold(x, 1, () -> x.reach(0));
        foretold(x, 7, () -> x.reach(1));
        foretold(x, 7, () -> x.reach(2));
    }

    @Says("and falls there, and so on")
    static void promise17_downAllEightStreets() {
        String slopes = "slope0 1;slope1 2;slope2 3;slope3 4;slope4 5;slope5 6;slope6 7";
        // At the CAP each, 1 inch runs all the way.
        RainBallot line = of("cap5;inches1;" + times("alley0 0 5;", 7) + "alley0 0 5");
        tell(line, slopes);
        for (int s = 0; s < 8; s++) {
            int street = s;
            foretold(line, (2 << s) - 1, () -> line.reach(street));
        }
        tell(line, slopes + ";slope7 0");
        for (int s = 0; s < 8; s++) {
            int street = s;
            foretold(line, 255, () -> line.reach(street));
        }
    }

    @Says("if INCHES fell there now")
    static void promise17_alsoWhereItRainedTheDayBefore() {
        RainBallot x = of("cap 10;inches 9;garden 20 1 9;alley 0 0 0;slope 0 1");
        due(x.day(), 0);
        foretold(x, 1, () -> x.reach(0));
        foretold(x, 3, () -> x.reach(1));
        x.day();
        foretold(x, 3, () -> x.reach(1));
    }

    // ---- promise 18

    @Says("MONTH of n DAYS (1 .. 4)")
    static void promise18_nIs1To4() {
        RainBallot x = of("garden 5 0 0");
        refused(x, OUTSIDE, () -> x.month(0, NONE), () -> x.month(5, NONE), () -> x.month(-1, 0), () -> x.month(0, 0),
            () -> x.month(5, 0), () -> x.month(LEAST, 0), () -> x.month(MOST, 0));
        row(x, 1, 0);
        row(x, 1, 0, 0);
        row(x, 1, 0, 0, 0);
        row(x, 1, 0, 0, 0, 0);
    }

    @Says("the k-th (0 .. 3; NONE: the row is not so long, there are no STREETS). OUTSIDE.")
    static void promise18_kIsNoneOr0To3() {
        RainBallot x = of("garden 20 0 0;garden 5 0 0");
        refused(x, OUTSIDE, () -> x.month(1, -2), () -> x.month(4, -2), () -> x.month(1, 4), () -> x.month(4, 4),
            () -> x.month(4, LEAST), () -> x.month(4, MOST), () -> x.month(4, UNKNOWN), () -> x.month(4, OUTSIDE));
        foretold(x, 2, () -> x.month(4, NONE));
        foretold(x, 0, () -> x.month(4, 0));
        foretold(x, 1, () -> x.month(4, 3));
    }

    @Says("NONE: the row is not so long")
    static void promise18_theRowIsNotSoLong() {
        RainBallot x = of("orchard 20 0 0;garden 7 0 0");
        for (int n = 1; n <= 4; n++) {
            int days = n;
            foretold(x, 1, () -> x.month(days, days - 1));
            for (int k = n; k <= 3; k++) {
                int behind = k;
                foretold(x, NONE, () -> x.month(days, behind));
            }
        }
        refused(x, OUTSIDE, () -> x.month(1, 4));
    }

    @Says("none (there are no STREETS)")
    static void promise18_noStreets() {
        RainBallot x = new RainBallot();
        for (int n = 1; n <= 4; n++) {
            for (int k = NONE; k <= 3; k++) due(x.month(n, k), NONE);
        }
        refused(x, OUTSIDE, () -> x.month(0, NONE), () -> x.month(5, 0), () -> x.month(1, 4), () -> x.month(1, -2));
        tell(x, "garden 1 0 0");
        due(x.month(1, NONE), 1);
        due(x.month(1, 0), 0);
        tell(x, "town");
        due(x.month(1, NONE), NONE);
        due(x.month(1, 0), NONE);
    }

    @Says("have what they WANT, or more")
    static void promise18_justWhatTheyWant() {
        // A day of rain leaves 7, two leave 14.
        row(of("garden 6 0 0"), 1, 0);
        row(of("garden 7 0 0"), 1, 0);
        row(of("garden 8 0 0"), 0, 0);
        row(of("alley 7 0 0"), 1, 0);
        row(of("alley 8 0 0"), 0, 0);
        row(of("orchard 3 0 0"), 1, 0);
        row(of("orchard 4 0 0"), 0, 0);
        row(of("orchard 7 0 0"), 1, 0, 0);
        row(of("orchard 8 0 0"), 0, 0, 0);
        row(of("laundry 20 0 0"), 1, 0);
    }

    @Says("of several the first")
    static void promise18_theFirstOfSeveral() {
        row(of("garden 7 0 0;garden 7 0 0"), 1, 0);
        row(of("garden 8 0 0;garden 7 0 0"), 1, 1);
        row(of("garden 6 0 0;garden 6 0 0"), 2, 0, 1);
        row(of("garden 7 0 0;garden 6 0 0"), 2, 1, 0);
        row(of("garden 6 0 0;garden 7 0 0"), 2, 0, 1);
        row(of("garden 5 0 0;garden 7 0 0;garden 5 0 0"), 3, 0, 2, 1);
        row(of("laundry 0 0 0;laundry 0 0 0"), 2, 0, 0, 0, 0);
    }

    @Says("those behind which most STREETS have what they WANT")
    static void promise18_noneOrAllHaveWhatTheyWant() {
        row(of(times("garden20 0 0;", 7) + "garden20 0 0"), 0, 0, 0);
        row(of(times("laundry20 0 0;", 7) + "laundry20 0 0"), 8, 0, 0, 0, 0);
        row(of(times("laundry20 0 0;", 7) + "garden7 0 0"), 8, 7);
    }

    @Says("of all rows of n STREETS")
    static void promise18_theVeryLastRow() {
        // Four days on it leave 28, three leave 21 at most: only the last of 4,096 rows is enough.
        RainBallot x = of(times("orchard20 0 0;", 7) + "orchard14 0 0");
        row(x, 0, 0, 0, 0);
        row(x, 1, 7, 7, 7, 7);
        x.day();
        row(x, 1, 7, 7, 7, 7);
        tell(x, "town;" + times("orchard20 0 0;", 7) + "orchard15 0 0");
        row(x, 0, 0, 0, 0, 0);
    }

    @Says("one a DAY from now on, whatever a BALLOT says")
    static void promise18_whateverABallotSays() {
        RainBallot x = of("garden 12 0 0;garden 20 9 0");
        row(x, 1, 0, 0);
        due(x.day(), 1);
        x.hose(0, 14);
        // On 1 again, though it rained there the day before: 7, 14, 21.
        row(x, 2, 1, 1);
    }

    @Says("STREETS on which it would rain, one a DAY from now on")
    static void promise18_itMustRainOnAStreet() {
        // Left dry it would have more than the 40 that it wants; rain takes what is above the CAP away.
        row(of("cap 5;orchard 20 0 99"), 0, 0);
        row(of("cap 40;orchard 20 0 99"), 0, 0);
        row(of("cap 41;orchard 20 0 99"), 1, 0);
        row(of("cap 5;orchard 20 0 99;alley 20 0 0"), 1, 1);
        row(of("cap 5;orchard 20 0 99;orchard 20 0 99"), 1, 0);
        row(of("cap 5;orchard 20 0 99;orchard 20 0 99"), 1, 0, 0);
    }

    @Says("all that is above the CAP then runs")
    static void promise18_withRunOff() {
        row(of("cap 5;inches 20;garden 4 0 0;alley 4 0 0;alley 4 0 0;slope 0 1;slope 1 2"), 3, 0);
        row(of("cap 5;inches 14;garden 4 0 0;alley 4 0 0;alley 4 0 0;slope 0 1;slope 1 2"), 2, 0);
        row(of("cap 5;inches 15;garden 4 0 0;alley 4 0 0;alley 4 0 0;slope 1 2"), 2, 1);
    }

    public static void main(String[] args) {
        run(ForetoldEdgesTest.class, 14, 18);
    }
}
