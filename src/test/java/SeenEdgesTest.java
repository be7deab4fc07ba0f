/** The edges of promises 19 to 23, what was seen, odds and counts: a test for each sentence that names one. */
public final class SeenEdgesTest extends TestKit {
    private static final int ANY = (1 << 21) - 1;

    private static void odds(RainBallot x, int street, int q, int above, int below) {
        foretold(x, above, () -> x.chance(street, q, 0));
        foretold(x, below, () -> x.chance(street, q, 1));
    }

    // ---- promise 19

    @Says("on the n-th DAY (1 .. 20; 1: the next one to be, when POLLS is asked)")
    static void promise19_nIs1To20() {
        RainBallot x = of("garden 5 5 5");
        refused(x, OUTSIDE, () -> x.seen(0, 0), () -> x.seen(0, 21), () -> x.seen(NONE, -1), () -> x.seen(NONE, 21),
            () -> x.seen(0, LEAST), () -> x.seen(0, MOST));
        due(x.seen(0, 1), 1);
        due(x.seen(NONE, 20), 2);
        refused(x, OUTSIDE, () -> x.seen(0, 0), () -> x.seen(0, 21));
    }

    @Says("SEEN, 6 at most")
    static void promise19_sixAtMost() {
        RainBallot x = of("garden 5 5 5;garden 5 5 5");
        for (int i = 1; i <= 5; i++) due(x.seen(0, i), i);
        due(x.seen(NONE, 20), 6);
        refused(x, FULL, () -> x.seen(0, 1), () -> x.seen(NONE, 20), () -> x.seen(1, 6));
        due(x.forget(), 6);
        due(x.seen(1, 6), 1);
    }

    @Says("SEEN: how many.")
    static void promise19_theSameTwiceCountsTwice() {
        RainBallot x = of("garden 5 5 5;garden 5 5 5");
        due(x.seen(0, 1), 1);
        due(x.seen(0, 1), 2);
        due(x.seen(1, 1), 3);
        due(x.count(7), 3);
    }

    @Says("UNKNOWN (the STREET may be NONE)")
    static void promise19_noSuchStreet() {
        RainBallot x = of("garden 5 5 5;garden 5 5 5");
        refused(x, UNKNOWN, () -> x.seen(-2, 1), () -> x.seen(2, 1), () -> x.seen(8, 1), () -> x.seen(LEAST, 1),
            () -> x.seen(MOST, 1), () -> x.seen(NOT, 1), () -> x.seen(FULL, 1));
        due(x.seen(NONE, 1), 1);
        due(x.seen(0, 1), 2);
        due(x.seen(1, 1), 3);
        RainBallot empty = new RainBallot();
        refused(empty, UNKNOWN, () -> empty.seen(0, 1));
        due(empty.seen(NONE, 1), 1);
    }

    @Says("the first of these that fits")
    static void promise19_unknownOutsideFull() {
        RainBallot x = of("garden 5 5 5");
        refused(x, UNKNOWN, () -> x.seen(1, 0), () -> x.seen(-2, 21));
        for (int i = 1; i <= 6; i++) x.seen(0, i);
        refused(x, UNKNOWN, () -> x.seen(1, 1), () -> x.seen(-2, 21));
        refused(x, OUTSIDE, () -> x.seen(0, 0), () -> x.seen(NONE, 21));
        refused(x, FULL, () -> x.seen(0, 1));
    }

    // ---- promise 20

    @Says("SEEN is nothing: how many there were.")
    static void promise20_nothingOneOrSix() {
        RainBallot x = of("garden 20 5 5");
        refused(x, 0, x::forget, x::forget);
        x.seen(0, 2);
        due(x.polls(0), 0);
        due(x.forget(), 1);
        due(x.polls(0), ANY);
        refused(x, 0, x::forget);
        for (int i = 1; i <= 7; i++) x.seen(NONE, i);
        due(x.forget(), 6);
        due(x.count(7), 0);
        for (int i = 1; i <= 6; i++) due(x.seen(NONE, i), i);
    }

    @Says("SEEN is nothing: how many there were.")
    static void promise20_onlySeen() {
        RainBallot x = of("garden 20 5 5");
        x.day();
        x.keep(0);
        x.write('x');
        String ahead = state(x);
        x.seen(0, 1);
        due(x.forget(), 1);
        same("forget", state(x), ahead);
        due(x.back(0), 1);
    }

    // ---- promise 21

    @Says("UNKNOWN (no such STREET)")
    static void promise21_noSuchStreet() {
        RainBallot x = of("garden 20 5 0;garden 20 3 0");
        refused(x, UNKNOWN, () -> x.polls(-1), () -> x.polls(2), () -> x.polls(8), () -> x.polls(LEAST), () -> x.polls(MOST));
        foretold(x, ANY, () -> x.polls(0));
        foretold(x, ANY, () -> x.polls(1));
    }

    @Says("VOTERS (0 .. 20, by bits) by which all that is SEEN would be so")
    static void promise21_votersAre0To20() {
        RainBallot x = of("garden 20 7 0;garden 20 19 0");
        x.seen(0, 1);
        foretold(x, 1 << 20, () -> x.polls(0));
        x.poll(1, 20);
        foretold(x, 0, () -> x.polls(0));
        x.poll(1, 0);
        foretold(x, ANY - 1, () -> x.polls(0));
        x.forget();
        x.seen(1, 1);
        foretold(x, 0, () -> x.polls(0));
        x.poll(1, 1);
        foretold(x, 1, () -> x.polls(0));
        x.poll(1, 20);
        foretold(x, (1 << 20) - 1, () -> x.polls(0));
    }

    @Says("all that is SEEN would be so")
    static void promise21_nothingOrAll() {
        RainBallot x = of("garden 20 5 0;garden 20 3 0");
        foretold(x, ANY, () -> x.polls(0));
        x.seen(0, 1);
        foretold(x, ANY - 15, () -> x.polls(0));
        x.seen(0, 1);
        foretold(x, ANY - 15, () -> x.polls(0));
        x.seen(1, 2);
        foretold(x, ANY - 15, () -> x.polls(0));
        x.seen(NONE, 1);
        foretold(x, 0, () -> x.polls(0));
    }

    @Says("it rained on a STREET (NONE: on the square)")
    static void promise21_onTheSquare() {
        RainBallot x = of("garden 20 5 0;garden 20 3 0");
        x.seen(NONE, 1);
        foretold(x, 1 << 3, () -> x.polls(0));
        foretold(x, 1 << 5, () -> x.polls(1));
        RainBallot alone = of("garden 20 5 0");
        alone.seen(NONE, 1);
        foretold(alone, 1, () -> alone.polls(0));
        alone.forget();
        alone.seen(NONE, 2);
        foretold(alone, ANY, () -> alone.polls(0));
    }

    @Says("on the n-th DAY (1 .. 20; 1: the next one to be, when POLLS is asked)")
    static void promise21_theFirstAndTheTwentiethDay() {
        // An orchard that never has what it wants, alone: rain on each odd day, if it has voters.
        RainBallot x = of("orchard 20 5 0");
        x.seen(0, 19);
        foretold(x, ANY - 1, () -> x.polls(0));
        x.seen(NONE, 20);
        foretold(x, ANY - 1, () -> x.polls(0));
        x.forget();
        x.seen(0, 20);
        foretold(x, 0, () -> x.polls(0));
        x.day();
        foretold(x, ANY - 1, () -> x.polls(0));
        x.seen(NONE, 1);
        foretold(x, ANY - 1, () -> x.polls(0));
        x.undo();
        foretold(x, 0, () -> x.polls(0));
    }

    @Says("8 at most")
    static void promise21_theEighthStreet() {
        RainBallot x = of(times("alley0 0 9;", 7) + "garden20 5 0");
        x.seen(7, 1);
        foretold(x, ANY - 1, () -> x.polls(7));
        foretold(x, ANY, () -> x.polls(0));
        x.poll(7, 0);
        foretold(x, 0, () -> x.polls(0));
        refused(x, UNKNOWN, () -> x.polls(8));
    }

    // ---- promise 22

    @Says("CHANCE (the STREET may be NONE). UNKNOWN; OUTSIDE.")
    static void promise22_noSuchStreet() {
        RainBallot x = of("garden 20 5 0;garden 20 3 0");
        refused(x, UNKNOWN, () -> x.chance(-2, 5, 0), () -> x.chance(2, 5, 0), () -> x.chance(8, 5, 1),
            () -> x.chance(LEAST, 5, 0), () -> x.chance(MOST, 5, 1));
        odds(x, NONE, 5, 1, 4);
        odds(x, 0, 5, 1, 2);
        odds(x, 1, 5, 1, 4);
    }

    @Says("stay at home (all of them) by q of ten (0 .. 10)")
    static void promise22_qIs0To10() {
        RainBallot x = of("garden 20 5 0;garden 20 3 0");
        refused(x, OUTSIDE, () -> x.chance(0, -1, 0), () -> x.chance(0, 11, 0), () -> x.chance(NONE, -1, 1),
            () -> x.chance(NONE, 11, 1), () -> x.chance(1, LEAST, 0), () -> x.chance(1, MOST, 0));
        odds(x, 0, 0, 1, 1);
        odds(x, 1, 0, 0, 1);
        odds(x, NONE, 0, 0, 1);
        odds(x, 0, 10, 0, 1);
        odds(x, 1, 10, 0, 1);
        odds(x, NONE, 10, 1, 1);
        odds(x, 0, 1, 9, 10);
        odds(x, 1, 9, 9, 100);
    }

    @Says("Parts are told in lowest terms: above (part 0), below (1).")
    static void promise22_partIs0Or1() {
        RainBallot x = of("garden 20 5 0;garden 20 3 0");
        refused(x, OUTSIDE, () -> x.chance(0, 5, -1), () -> x.chance(0, 5, 2), () -> x.chance(NONE, 5, LEAST),
            () -> x.chance(NONE, 5, MOST));
        odds(x, 0, 3, 7, 10);
    }

    @Says("the first of these that fits")
    static void promise22_unknownGoesBeforeOutside() {
        RainBallot x = of("garden 20 5 0");
        refused(x, UNKNOWN, () -> x.chance(1, 11, 0), () -> x.chance(-2, 5, 2));
        refused(x, OUTSIDE, () -> x.chance(0, 11, 0), () -> x.chance(0, 5, 2));
        RainBallot empty = new RainBallot();
        refused(empty, UNKNOWN, () -> empty.chance(0, 11, 2));
        refused(empty, OUTSIDE, () -> empty.chance(NONE, 11, 0), () -> empty.chance(NONE, -1, 0), () -> empty.chance(NONE, 0, 2));
    }

    @Says("it is CARRIED now by a STREET (NONE: by none)")
    static void promise22_withoutStreetsByNone() {
        RainBallot empty = new RainBallot();
        for (int q = 0; q <= 10; q++) odds(empty, NONE, q, 1, 1);
        RainBallot still = of("alley 0 20 0");
        odds(still, NONE, 5, 1, 1);
        odds(still, 0, 5, 0, 1);
    }

    @Says("Votes for the STREET on which it rained the DAY before are left out.")
    static void promise22_notWhereItRainedTheDayBefore() {
        RainBallot x = of("garden 20 5 0;garden 20 3 0");
        x.day();
        odds(x, 0, 3, 0, 1);
        odds(x, 1, 3, 7, 10);
        odds(x, NONE, 3, 3, 10);
        x.day();
        odds(x, 0, 3, 7, 10);
        odds(x, 1, 3, 0, 1);
    }

    @Says("which has most votes, more than any other, and 1 or more")
    static void promise22_aTieIsCarriedByNone() {
        RainBallot x = of("garden 20 4 0;garden 20 4 0");
        odds(x, 0, 1, 9, 100);
        odds(x, 1, 1, 9, 100);
        odds(x, NONE, 1, 41, 50);
        x.poll(0, 5);
        odds(x, 0, 1, 9, 10);
        x.poll(0, 0);
        x.poll(1, 0);
        odds(x, NONE, 1, 1, 1);
    }

    @Says("Parts are told in lowest terms")
    static void promise22_lowestTermsOfEightStreets() {
        RainBallot x = of(times("garden 20 1 0;", 7) + "garden 20 1 0");
        odds(x, 0, 3, 7 * 2187, 100000000);
        odds(x, 7, 3, 7 * 2187, 100000000);
        odds(x, 0, 5, 1, 256);
        odds(x, NONE, 5, 31, 32);
        // 9 of ten for one, and 1 of ten for each of seven: 9 of 10 to the 8th.
        odds(x, 7, 1, 9, 100000000);
        odds(x, 7, 9, 4782969, 100000000);
        odds(x, NONE, 10, 1, 1);
    }

    @Says("CHANCE: the odds that it is CARRIED now")
    static void promise22_asItIsNow() {
        // On the second day 0 has what it wants, and its votes go to 1.
        String text = "garden 5 5 0;alley 0 0 3";
        RainBallot x = of(text);
        due(x.chance(0, 3, 0), 7);
        due(x.where(2), 1);
        due(x.chance(0, 3, 0), 7);
        due(x.chance(1, 3, 0), 0);
        x.day();
        due(x.chance(0, 3, 0), 0);
        due(x.chance(1, 3, 0), 7);
        x.undo();
        due(x.chance(0, 3, 1), 10);
        due(of(text).chance(1, 3, 1), 1);
    }

    // ---- promise 23

    @Says("9 letters of THE TEXT. OUTSIDE.")
    static void promise23_whatIs0To9() {
        RainBallot x = of("garden 20 5 4;cap 9;inches 7");
        x.day();
        x.write('x');
        int[] counts = {1, 1, 9, 7, 8, 0, 0, 0, 1, 1};
        for (int what = 0; what <= 9; what++) {
            int which = what;
            foretold(x, counts[what], () -> x.count(which));
        }
        refused(x, OUTSIDE, () -> x.count(-1), () -> x.count(10), () -> x.count(LEAST), () -> x.count(MOST));
    }

    @Says("0 STREETS, 1 the DAY, 2 CAP, 3 INCHES, 4 all WATER together")
    static void promise23_theLeastAndTheMost() {
        RainBallot none = of("cap 5;inches 1");
        due(none.count(0), 0);
        due(none.count(2), 5);
        due(none.count(3), 1);
        due(none.count(4), 0);
        RainBallot all = of("cap 99;inches 20;" + times("alley0 0 99;", 7) + "alley0 0 99");
        due(all.count(0), 8);
        due(all.count(1), 0);
        due(all.count(2), 99);
        due(all.count(3), 20);
        due(all.count(4), 792);
        all.day();
        due(all.count(1), 1);
        due(all.count(4), 784);
    }

    @Says("5 STREETS that have what they WANT, or more (bits)")
    static void promise23_justWhatTheyWant() {
        due(of("garden 9 0 8;garden 9 0 9;garden 9 0 10").count(5), 2 + 4);
        due(of("orchard 9 0 17;orchard 9 0 18;orchard 9 0 9").count(5), 2);
        due(of("alley 9 0 8;alley 9 0 9;laundry 20 0 0").count(5), 2 + 4);
        due(of("garden 0 0 0;orchard 0 0 0;alley 0 0 0").count(5), 7);
        due(of(times("garden9 0 9;", 7) + "garden9 0 9").count(5), 255);
        due(of(times("garden9 0 8;", 7) + "garden9 0 8").count(5), 0);
        due(of(times("garden9 0 8;", 7) + "garden9 0 9").count(5), 128);
        due(new RainBallot().count(5), 0);
    }

    @Says("all WATER together")
    static void promise23_onlyOfStreetsThatAre() {
        RainBallot x = of(times("alley0 0 99;", 7) + "alley0 0 99");
        due(x.count(4), 792);
        tell(x, "town;alley 0 0 3;alley 9 0 4");
        due(x.count(0), 2);
        due(x.count(4), 7);
        due(x.count(5), 1);
        tell(x, "town");
        due(x.count(4), 0);
        due(x.count(5), 0);
    }

    @Says("6 where it rained on the latest DAY (NONE)")
    static void promise23_whereItRained() {
        RainBallot x = of(times("alley0 0 9;", 7) + "garden20 1 0");
        due(x.count(6), NONE);
        x.day();
        due(x.count(6), 7);
        x.day();
        due(x.count(6), NONE);
        x.undo();
        due(x.count(6), 7);
        x.undo();
        due(x.count(6), NONE);
    }

    @Says("7 SEEN, 8 how many can be undone, 9 letters of THE TEXT")
    static void promise23_countsOfWhatHasALimit() {
        RainBallot x = of("garden 20 5 4");
        for (int i = 0; i <= 7; i++) {
            due(x.count(7), Math.min(i, 6));
            x.seen(0, i + 1);
        }
        for (int i = 0; i <= 10; i++) {
            due(x.count(8), Math.min(i, 8));
            x.poll(0, i);
        }
        for (int i = 0; i <= 162; i++) {
            due(x.count(9), Math.min(i, 160));
            x.write('x');
        }
        x.erase();
        x.forget();
        x.undo();
        due(x.count(7), 0);
        due(x.count(8), 7);
        due(x.count(9), 0);
    }

    public static void main(String[] args) {
        run(SeenEdgesTest.class, 19, 23);
    }
}
