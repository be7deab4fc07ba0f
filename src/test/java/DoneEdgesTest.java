/** The edges of promises 8 to 13, what is done: a test for each sentence that names one. */
public final class DoneEdgesTest extends TestKit {
    private static void water(RainBallot x, int... want) {
        for (int s = 0; s < want.length; s++) due("water of " + s, x.street(s, 3), want[s]);
    }

    /** Gardens that lack water, each with so many voters: each votes for itself. */
    private static RainBallot gardens(int... voters) {
        StringBuilder text = new StringBuilder("cap 30");
        for (int v : voters) text.append(";garden 20 ").append(v).append(" 0");
        return of(text.toString());
    }

    // ---- promise 8

    @Says("by none (it rains on the square)")
    static void promise08_aTownWithoutStreetsOrVoters() {
        RainBallot empty = new RainBallot();
        due(empty.day(), NONE);
        due(empty.count(1), 1);
        due(empty.count(6), NONE);
        RainBallot still = of("alley 20 20 5;laundry 0 0 5");
        due(still.day(), NONE);
        due(still.count(6), NONE);
        water(still, 4, 4);
    }

    @Says("which has most votes, more than any other, and 1 or more")
    static void promise08_oneVoteIsEnough() {
        due(gardens(0).day(), NONE);
        due(gardens(1).day(), 0);
        due(gardens(0, 0, 0, 0, 0, 0, 0).day(), NONE);
        due(gardens(0, 0, 0, 0, 0, 0, 1).day(), 6);
        due(gardens(20, 19).day(), 0);
    }

    @Says("which has most votes, more than any other, and 1 or more")
    static void promise08_moreThanAnyOther() {
        due(gardens(3, 3).day(), NONE);
        due(gardens(3, 4).day(), 1);
        due(gardens(4, 3).day(), 0);
        due(gardens(3, 3, 2).day(), NONE);
        due(gardens(3, 2, 3).day(), NONE);
        due(gardens(2, 3, 3).day(), NONE);
        due(gardens(3, 3, 3).day(), NONE);
        due(gardens(3, 3, 4).day(), 2);
        due(gardens(3, 4, 3).day(), 1);
        due(gardens(4, 3, 3).day(), 0);
        due(gardens(4, 3, 3, 4).day(), NONE);
        due(gardens(3, 3, 4, 4, 5).day(), 4);
    }

    @Says("Votes for the STREET on which it rained the DAY before are left out.")
    static void promise08_notWhereItRainedTheDayBefore() {
        RainBallot alone = gardens(5);
        due(alone.day(), 0);
        due(alone.day(), NONE);
        due(alone.day(), 0);
        RainBallot two = gardens(5, 3);
        due(two.day(), 0);
        due(two.day(), 1);
        due(two.day(), 0);
    }

    @Says("Votes for the STREET on which it rained the DAY before are left out.")
    static void promise08_votesLeftOutTieWithNone() {
        RainBallot x = gardens(5, 4);
        due(x.day(), 0);
        x.poll(1, 5);
        due(x.day(), 1);
        RainBallot tie = gardens(5, 3, 3);
        due(tie.day(), 0);
        due(tie.day(), NONE);
        due(tie.day(), 0);
    }

    @Says("then each STREET has 1 less WATER (0 at least)")
    static void promise08_water0StaysAt0() {
        RainBallot x = of("alley 0 0 0;alley 0 0 1;alley 0 0 2;alley 0 0 99");
        x.day();
        water(x, 0, 0, 1, 98);
        x.day();
        water(x, 0, 0, 0, 97);
    }

    @Says("INCHES of rain fall there")
    static void promise08_inchesAre1To20() {
        RainBallot least = of("inches 1;garden 20 1 0;garden 20 0 5");
        due(least.day(), 0);
        water(least, 0, 4);
        RainBallot most = of("inches 20;garden 20 1 0;garden 20 0 5");
        due(most.day(), 0);
        water(most, 19, 4);
    }

    @Says("all that is above the CAP then runs to the STREET to which it has a SLOPE, and falls there")
    static void promise08_nothingRunsAtTheCap() {
        String other = ";alley 0 0 3;slope 0 1";
        RainBallot below = of("cap 10;inches 5;garden 20 1 4" + other);
        due(below.day(), 0);
        water(below, 8, 2);
        RainBallot at = of("cap 10;inches 5;garden 20 1 5" + other);
        due(at.day(), 0);
        water(at, 9, 2);
        RainBallot above = of("cap 10;inches 5;garden 20 1 6" + other);
        due(above.day(), 0);
        water(above, 9, 3);
    }

    @Says("it is gone, if there is no SLOPE")
    static void promise08_whatRunsOffWithoutSlopeIsGone() {
        RainBallot x = of("cap 10;inches 5;garden 20 1 8;alley 0 0 3;slope 1 0");
        due(x.day(), 0);
        water(x, 9, 2);
        RainBallot to = of("cap 10;inches 5;garden 20 1 8;alley 0 0 3;slope 0 1");
        due(to.day(), 0);
        water(to, 9, 5);
    }

    @Says("or it would come to a STREET on which some of it fell already")
    static void promise08_whatComesBackIsGone() {
        RainBallot two = of("cap 10;inches 20;garden 20 1 10;alley 0 0 9;slope 0 1;slope 1 0");
        due(two.day(), 0);
        water(two, 9, 9);
        // 10 run to 1, 9 of them to 2, 8 of them would come to 1 again, not to 0.
        RainBallot tail = of("cap 10;inches 20;garden 20 1 0;alley 0 0 9;alley 0 0 9;slope 0 1;slope 1 2;slope 2 1");
        due(tail.day(), 0);
        water(tail, 9, 9, 9);
        // It is not too much for 1: nothing runs back, and what is on 0 stays.
        RainBallot enough = of("cap 10;inches 5;garden 20 1 9;alley 0 0 6;slope 0 1;slope 1 0");
        due(enough.day(), 0);
        water(enough, 9, 9);
    }

    @Says("and falls there, and so on")
    static void promise08_itRunsDownAllEightStreets() {
        String streets = "cap5;inches20;garden20 1 0;" + times("alley0 0 3;", 6);
        String slopes = "slope0 1;slope1 2;slope2 3;slope3 4;slope4 5;slope5 6;slope6 7";
        // 20 less 5, less 2 on each of 1 to 6: 3 come to 7.
        RainBallot line = of(streets + "alley0 0 0");
        tell(line, slopes);
        due(line.day(), 0);
        water(line, 4, 4, 4, 4, 4, 4, 4, 2);
        RainBallot ring = of(streets + "alley0 0 4");
        tell(ring, slopes + ";slope7 0");
        due(ring.day(), 0);
        water(ring, 4, 4, 4, 4, 4, 4, 4, 4);
    }

    @Says("What falls on a STREET is WATER there; all that is above the CAP then runs")
    static void promise08_whatStoodAboveTheCapRunsToo() {
        // 5 come to 1, which has 99: 94 run to 2, where 84 are gone.
        RainBallot x = of("cap 10;inches 5;garden 20 1 10;alley 0 0 99;alley 0 0 0;slope 0 1;slope 1 2");
        due(x.day(), 0);
        water(x, 9, 9, 9);
        RainBallot most = of("cap 99;inches 20;alley 0 0 99;laundry 0 1 99;slope 0 1");
        due(most.day(), 0);
        water(most, 98, 98);
    }

    @Says("What falls on a STREET is WATER there; all that is above the CAP then runs")
    static void promise08_whereNothingFallsNothingRuns() {
        RainBallot dry = of("cap 5;inches 1;garden 20 1 0;alley 0 0 99;alley 0 0 0;slope 1 2");
        due(dry.day(), 0);
        water(dry, 0, 98, 0);
        // 3 come to 1: at 7 that is the CAP, and nothing comes to 2; at 8 it is 1 more.
        String ahead = "cap 10;inches 5;garden 20 1 8;alley 0 0 ";
        RainBallot at = of(ahead + "7;alley 0 0 99;slope 0 1;slope 1 2");
        due(at.day(), 0);
        water(at, 9, 9, 98);
        RainBallot above = of(ahead + "8;alley 0 0 99;slope 0 1;slope 1 2");
        due(above.day(), 0);
        water(above, 9, 9, 9);
        RainBallot square = of("cap 5;alley 0 0 99;alley 0 0 0;slope 0 1");
        due(square.day(), NONE);
        water(square, 98, 0);
    }

    @Says("A DAY: where it rained; NONE.")
    static void promise08_whereItRained() {
        RainBallot x = gardens(0, 0, 0, 0, 0, 0, 1);
        due(x.day(), 6);
        due(x.count(6), 6);
        due(x.day(), NONE);
        due(x.count(6), NONE);
        RainBallot first = gardens(1);
        due(first.day(), 0);
        due(first.count(6), 0);
    }

    @Says("FULL: it is DAY 999.")
    static void promise08_fullOnDay999() {
        // Day 999 lies behind the 512 calls for which answers are promised; the words hold there too.
        RainBallot x = new RainBallot();
        for (int i = 1; i <= 999; i++) due(x.day(), NONE);
        due(x.count(1), 999);
        refused(x, FULL, x::day, x::day);
        due(x.undo(), 7);
        due(x.count(1), 998);
        due(x.day(), NONE);
        refused(x, FULL, x::day);
        due(x.keep(0), 999);
        due(x.back(0), 999);
        refused(x, FULL, x::day);
    }

    // ---- promise 9

    @Says("HOSED with w (1 .. 20): WATER then.")
    static void promise09_wIs1To20() {
        RainBallot x = of("alley 0 0 5;alley 0 0 6");
        refused(x, OUTSIDE, () -> x.hose(0, 0), () -> x.hose(0, 21), () -> x.hose(0, -1), () -> x.hose(1, LEAST),
            () -> x.hose(1, MOST));
        due(x.hose(0, 1), 6);
        due(x.hose(0, 20), 26);
        water(x, 26, 6);
        refused(x, OUTSIDE, () -> x.hose(0, 0), () -> x.hose(0, 21));
        due(x.undo(), 1);
        due(x.undo(), 0);
        water(x, 5, 6);
    }

    @Says("HOSED: a STREET has so much more WATER (99 at most; nothing runs).")
    static void promise09_99AtMost() {
        RainBallot x = of("alley 0 0 79;alley 0 0 80;alley 0 0 98;alley 0 0 99;alley 0 0 0");
        due(x.hose(0, 19), 98);
        due(x.hose(0, 1), 99);
        due(x.hose(0, 1), 99);
        due(x.hose(1, 20), 99);
        due(x.hose(2, 20), 99);
        due(x.hose(3, 1), 99);
        due(x.hose(3, 20), 99);
        due(x.hose(4, 20), 20);
        water(x, 99, 99, 99, 99, 20);
    }

    @Says("HOSED: a STREET has so much more WATER (99 at most; nothing runs).")
    static void promise09_nothingRunsAboveTheCap() {
        RainBallot x = of("cap 10;alley 0 0 9;alley 0 0 0;slope 0 1");
        due(x.hose(0, 1), 10);
        due(x.hose(0, 1), 11);
        due(x.hose(0, 20), 31);
        water(x, 31, 0);
        due(x.count(1), 0);
    }

    @Says("UNKNOWN (no such STREET)")
    static void promise09_noSuchStreet() {
        RainBallot x = of("alley 0 0 5;alley 0 0 6");
        refused(x, UNKNOWN, () -> x.hose(-1, 1), () -> x.hose(2, 1), () -> x.hose(8, 1), () -> x.hose(LEAST, 1),
            () -> x.hose(MOST, 1));
        due(x.hose(0, 1), 6);
        due(x.hose(1, 1), 7);
    }

    @Says("the first of these that fits")
    static void promise09_unknownGoesBeforeOutside() {
        RainBallot x = of("alley 0 0 5");
        refused(x, UNKNOWN, () -> x.hose(1, 0), () -> x.hose(-1, 21));
        refused(x, OUTSIDE, () -> x.hose(0, 0));
    }

    // ---- promise 10

    @Says("POLLED: VOTERS are v (0 .. 20): how many they were.")
    static void promise10_vIs0To20() {
        RainBallot x = of("garden 5 7 0;garden 5 6 0");
        refused(x, OUTSIDE, () -> x.poll(0, -1), () -> x.poll(0, 21), () -> x.poll(1, LEAST), () -> x.poll(1, MOST));
        due(x.poll(0, 0), 7);
        due(x.street(0, 6), 0);
        due(x.poll(0, 20), 0);
        due(x.street(0, 6), 20);
        due(x.poll(0, 20), 20);
        due(x.poll(0, 1), 20);
        due(x.street(1, 2), 6);
        refused(x, OUTSIDE, () -> x.poll(0, -1), () -> x.poll(0, 21));
        due(x.undo(), 3);
        due(x.street(0, 2), 20);
    }

    @Says("UNKNOWN (no such STREET)")
    static void promise10_noSuchStreet() {
        RainBallot x = of("garden 5 7 0;garden 5 6 0");
        refused(x, UNKNOWN, () -> x.poll(-1, 1), () -> x.poll(2, 1), () -> x.poll(8, 1), () -> x.poll(LEAST, 1),
            () -> x.poll(MOST, 1));
        due(x.poll(0, 1), 7);
        due(x.poll(1, 1), 6);
    }

    @Says("the first of these that fits")
    static void promise10_unknownGoesBeforeOutside() {
        RainBallot x = of("garden 5 7 0");
        refused(x, UNKNOWN, () -> x.poll(1, -1), () -> x.poll(-1, 21));
        refused(x, OUTSIDE, () -> x.poll(0, 21));
    }

    // ---- promise 11

    @Says("NOT: none.")
    static void promise11_nothingToUndo() {
        RainBallot x = new RainBallot();
        refused(x, NOT, x::undo, x::undo);
        tell(x, "garden 20 5 3");
        refused(x, NOT, x::undo);
        x.day();
        due(x.undo(), 0);
        refused(x, NOT, x::undo, x::undo);
        water(x, 3);
        x.hose(0, 1);
        tell(x, "cap 9");
        refused(x, NOT, x::undo);
        x.keep(0);
        x.hose(0, 1);
        x.back(0);
        refused(x, NOT, x::undo);
        x.poll(0, 1);
        due(x.undo(), 0);
        due(x.street(0, 2), 5);
    }

    @Says("The latest day(), hose(), poll() is undone")
    static void promise11_eachOfTheThree() {
        RainBallot x = of("garden 20 7 4;garden 5 6 80");
        String first = state(x);
        x.day();
        String second = state(x);
        x.hose(1, 20);
        String third = state(x);
        x.poll(0, 0);
        due(x.undo(), 2);
        same("poll", state(x), third);
        due(x.undo(), 1);
        same("hose", state(x), second);
        due(x.undo(), 0);
        same("day", state(x), first);
    }

    @Says("also one by which nothing became other")
    static void promise11_alsoWhatChangedNothing() {
        RainBallot x = of("alley 0 5 99");
        due(x.hose(0, 1), 99);
        due(x.count(8), 1);
        due(x.poll(0, 5), 5);
        due(x.count(8), 2);
        due(x.undo(), 1);
        due(x.undo(), 0);
        RainBallot empty = new RainBallot();
        empty.day();
        due(empty.undo(), 0);
        due(empty.count(1), 0);
    }

    @Says("the last 8 can be")
    static void promise11_theLast8CanBeUndone() {
        for (int done = 7; done <= 10; done++) {
            RainBallot x = of("garden 20 0 4");
            for (int i = 1; i <= done; i++) x.poll(0, i);
            due(x.count(8), Math.min(done, 8));
            for (int left = Math.min(done, 8) - 1; left >= 0; left--) due(x.undo(), left);
            refused(x, NOT, x::undo);
            due("behind " + done, x.street(0, 2), Math.max(0, done - 8));
        }
    }

    @Says("the last 8 can be")
    static void promise11_theLast8AreAnyOfTheThree() {
        RainBallot x = of("garden 20 0 0");
        for (int i = 0; i < 4; i++) {
            x.hose(0, 20);
            x.day();
            x.poll(0, i);
        }
        // 12 done: the first hose, day and poll, and the second hose, can't be undone.
        for (int left = 7; left >= 0; left--) due(x.undo(), left);
        refused(x, NOT, x::undo);
        due(x.count(1), 1);
        due(x.street(0, 3), 39);
        due(x.street(0, 2), 0);
    }

    @Says("how many can be undone yet")
    static void promise11_roundAndRound() {
        RainBallot x = of("garden 20 0 4");
        for (int i = 1; i <= 13; i++) x.poll(0, i);
        for (int left = 7; left >= 0; left--) due(x.undo(), left);
        due(x.street(0, 2), 5);
        for (int i = 11; i <= 15; i++) x.poll(0, i);
        for (int left = 4; left >= 2; left--) due(x.undo(), left);
        due(x.street(0, 2), 12);
        for (int i = 1; i <= 9; i++) x.poll(0, i);
        due(x.count(8), 8);
        for (int v = 8; v >= 1; v--) {
            due(x.undo(), v - 1);
            due(x.street(0, 2), v);
        }
        refused(x, NOT, x::undo);
    }

    @Says("Refused, and nothing changes")
    static void promise11_whatWasRefusedCantBeUndone() {
        RainBallot x = of("garden 20 5 4");
        x.poll(0, 6);
        x.hose(0, 0);
        x.hose(1, 1);
        x.poll(0, 21);
        x.poll(1, 0);
        x.back(0);
        x.keep(2);
        due(x.count(8), 1);
        due(x.undo(), 0);
        due(x.street(0, 2), 5);
    }

    @Says("The latest day(), hose(), poll() is undone")
    static void promise11_nothingElseCanBeUndone() {
        RainBallot x = of("garden 20 5 4");
        x.seen(0, 1);
        x.keep(0);
        x.write('x');
        x.erase();
        x.where(3);
        x.polls(0);
        refused(x, NOT, x::undo);
        x.hose(0, 1);
        x.seen(0, 2);
        x.keep(1);
        x.write('x');
        due(x.undo(), 0);
        due(x.count(7), 2);
        due(x.count(9), 1);
        due(x.forget(), 2);
        due(x.back(1), 0);
        water(x, 5);
    }

    @Says("The latest day(), hose(), poll() is undone")
    static void promise11_theDayBeforeIsAsItWas() {
        RainBallot x = gardens(5, 3);
        x.day();
        x.day();
        due(x.undo(), 1);
        due(x.count(6), 0);
        due(x.street(0, 6), 0);
        due(x.day(), 1);
        x.undo();
        due(x.undo(), 0);
        due(x.count(6), NONE);
        due(x.street(0, 6), 5);
    }

    @Says("8 at most")
    static void promise11_theEighthStreet() {
        RainBallot x = of(times("alley0 0 9;", 7) + "garden20 5 0");
        String first = state(x);
        x.poll(7, 9);
        x.hose(7, 20);
        x.day();
        x.undo();
        x.undo();
        due(x.undo(), 0);
        same("undo", state(x), first);
        due(x.street(7, 2) * 100 + x.street(7, 3), 500);
    }

    // ---- promise 12

    @Says("UNKNOWN: no such k.")
    static void promise12_kIs0Or1() {
        RainBallot x = of("garden 20 5 4");
        refused(x, UNKNOWN, () -> x.keep(-1), () -> x.keep(2), () -> x.keep(LEAST), () -> x.keep(MOST));
        refused(x, NOT, () -> x.back(0), () -> x.back(1));
        foretold(x, 0, () -> x.keep(0));
        foretold(x, 0, () -> x.keep(1));
        x.day();
        refused(x, UNKNOWN, () -> x.keep(2), () -> x.keep(-1));
        due(x.back(1), 0);
        due(x.back(0), 0);
    }

    @Says("is kept (k 0, 1): the DAY")
    static void promise12_theLatestKeptIsKept() {
        RainBallot x = of("garden 20 5 4");
        due(x.keep(0), 0);
        x.day();
        due(x.keep(1), 1);
        x.day();
        due(x.keep(0), 2);
        due(x.keep(0), 2);
        x.day();
        due(x.back(0), 2);
        due(x.back(1), 1);
        due(x.back(0), 2);
    }

    @Says("All as it is (but THE TEXT, SEEN, what can be undone) is kept")
    static void promise12_butTheTextSeenAndUndo() {
        RainBallot x = of("garden 20 5 4");
        x.hose(0, 1);
        x.seen(0, 1);
        x.write('x');
        foretold(x, 0, () -> x.keep(0));
        due(x.count(8), 1);
        due(x.undo(), 0);
        due(x.forget(), 1);
        due(x.erase(), 1);
        x.day();
        due(x.back(0), 0);
        due(x.count(7), 0);
        due(x.count(8), 0);
        due(x.count(9), 0);
        water(x, 5);
    }

    @Says("is kept (k 0, 1): the DAY")
    static void promise12_whatIsKeptStaysAsItWas() {
        RainBallot x = gardens(5, 3);
        x.day();
        x.keep(0);
        x.back(0);
        String kept = state(x);
        for (int i = 0; i < 10; i++) {
            x.day();
            x.hose(0, 20);
            x.poll(1, i);
        }
        x.undo();
        due(x.back(0), 1);
        same("back", state(x), kept);
        due(x.day(), 1);
        due(x.back(0), 1);
        due(x.count(6), 0);
    }

    // ---- promise 13

    @Says("UNKNOWN; NOT: nothing was kept since the last text.")
    static void promise13_kIs0Or1() {
        RainBallot x = of("garden 20 5 4");
        x.hose(0, 1);
        refused(x, UNKNOWN, () -> x.back(-1), () -> x.back(2), () -> x.back(LEAST), () -> x.back(MOST));
        x.keep(0);
        x.keep(1);
        refused(x, UNKNOWN, () -> x.back(-1), () -> x.back(2));
        due(x.undo(), 0);
    }

    @Says("NOT: nothing was kept since the last text.")
    static void promise13_nothingWasKept() {
        RainBallot x = of("garden 20 5 4");
        x.hose(0, 1);
        refused(x, NOT, () -> x.back(0), () -> x.back(1));
        x.keep(1);
        refused(x, NOT, () -> x.back(0));
        due(x.undo(), 0);
        due(x.back(1), 0);
        water(x, 5);
        tell(x, "cap 9");
        refused(x, NOT, () -> x.back(0), () -> x.back(1));
        x.keep(0);
        refused(x, NOT, () -> x.back(1));
        due(x.back(0), 0);
    }

    @Says("NOT: nothing was kept since the last text.")
    static void promise13_aTextRefusedForgetsNothing() {
        RainBallot x = of("garden 20 5 4");
        x.day();
        x.keep(0);
        write(x, "cap 4");
        refused(x, NOT, x::town);
        x.day();
        due(x.back(0), 1);
        x.erase();
        due(x.back(0), 1);
        tell(x, "cap 5");
        refused(x, NOT, () -> x.back(0));
    }

    @Says("It is as it was kept, nothing can be undone: the DAY.")
    static void promise13_nothingCanBeUndone() {
        RainBallot x = of("garden 20 5 4");
        x.keep(0);
        for (int i = 0; i < 9; i++) x.day();
        due(x.count(8), 8);
        due(x.back(0), 0);
        due(x.count(8), 0);
        refused(x, NOT, x::undo);
        due(x.day(), 0);
        due(x.undo(), 0);
        due(x.count(1), 0);
        x.keep(1);
        due(x.back(1), 0);
        refused(x, NOT, x::undo);
    }

    @Says("It is as it was kept")
    static void promise13_allIsAsItWasKept() {
        RainBallot x = gardens(5, 3);
        x.keep(1);
        String first = state(x);
        x.day();
        x.poll(0, 20);
        x.hose(1, 20);
        x.keep(0);
        x.day();
        due(x.back(1), 0);
        same("back", state(x), first);
        due(x.day(), 0);
        due(x.back(0), 1);
        due(x.count(6), 0);
        due(x.street(0, 2), 20);
        water(x, 7, 20);
    }

    @Says("8 at most")
    static void promise13_theEighthStreet() {
        RainBallot x = of(times("alley0 0 9;", 7) + "garden20 5 0");
        String first = state(x);
        x.keep(0);
        x.poll(7, 9);
        x.hose(7, 20);
        x.keep(1);
        x.day();
        x.back(0);
        same("back", state(x), first);
        x.back(1);
        due(x.street(7, 2) * 100 + x.street(7, 3), 920);
    }

    @Says("All as it is (but THE TEXT, SEEN, what can be undone) is kept")
    static void promise13_theTextAndSeenStay() {
        RainBallot x = of("garden 20 5 4");
        x.keep(0);
        x.seen(0, 1);
        write(x, "cap");
        x.day();
        due(x.back(0), 0);
        due(x.count(7), 1);
        due(x.count(9), 3);
        due(x.fault(), 3);
    }

    public static void main(String[] args) {
        run(DoneEdgesTest.class, 8, 13);
    }
}
