/** Each promise of the document by cases worked out by hand. */
public final class PromiseTest extends TestKit {
    // Votes now: 0 to itself (5), 1 to itself (4: 9 of 16), 2 none, 3 to 2 (7), 4 to 2 (3).
    private static final String FIVE = "cap 12;inches 9;garden 10 5 3;orchard 8 4 9;alley 6 9 1;laundry 9 7 4;"
        + "garden 2 3 8;slope 0 3;slope 3 2;slope 2 0";

    private static void promise1() {
        due("NONE", NONE, -1);
        due("UNKNOWN", UNKNOWN, -2);
        due("OUTSIDE", OUTSIDE, -3);
        due("NOT", NOT, -4);
        due("FULL", FULL, -5);
        RainBallot x = new RainBallot();
        int[] counts = {0, 0, 30, 8, 0, 0, NONE, 0, 0, 0};
        for (int i = 0; i < 10; i++) due("P1 count(" + i + ")", x.count(i), counts[i]);
        due("P1 street(0, 0)", x.street(0, 0), UNKNOWN);
        due("P1 where(1)", x.where(1), NONE);
        due("P1 two objects are apart", of("garden 1 1 1").count(0) - new RainBallot().count(0), 1);
    }

    private static void promise2() {
        RainBallot x = new RainBallot();
        due("P2 write(-1)", x.write(-1), OUTSIDE);
        due("P2 write(256)", x.write(256), OUTSIDE);
        due("P2 write(min)", x.write(Integer.MIN_VALUE), OUTSIDE);
        due("P2 write(0)", x.write(0), 1);
        due("P2 write(255)", x.write(255), 2);
        for (int i = 3; i <= 160; i++) due("P2 letter " + i, x.write(32), i);
        due("P2 write at 160", x.write(32), FULL);
        due("P2 write(256) at 160", x.write(256), OUTSIDE);
        due("P2 count(9)", x.count(9), 160);
    }

    private static void promise3() {
        RainBallot x = new RainBallot();
        due("P3 erase of nothing", x.erase(), 0);
        write(x, "garden 1 1 1");
        due("P3 erase", x.erase(), 12);
        due("P3 count(9)", x.count(9), 0);
        due("P3 erase again", x.erase(), 0);
        write(x, times("x", 160));
        due("P3 erase of all", x.erase(), 160);
        due("P3 write after it", x.write('t'), 1);
        write(x, "own");
        due("P3 fault after it", x.fault(), NONE);
    }

    private static void promise4() {
        String[] sound = {"town", "  town  ", "garden 0 0 0", "garden 20 20 99", "orchard20 20 99", "alley 00 01 09",
            "laundry  1  2  3 ", "cap 5", "cap99", "inches 1", "inches 20", "town;town", "town ; town",
            "alley 1 1 1;alley 1 1 1;slope 0 1;slope 1 0;slope 0 1", "alley 1 1 1;alley 1 1 1;slope01 00",
            times("town;", 13) + "town", times("alley 1 1 1;", 8) + "cap 9;slope 7 0",
            times("alley 1 1 1;", 8) + "town;alley 1 1 1"};
        for (String text : sound) due("P4 '" + text + "'", faultOf(text), NONE);
        Object[][] faults = {{"", 0}, {"   ", 3}, {";", 0}, {" ;", 1}, {"town;", 5}, {"town; ", 6}, {"town;;", 5},
            {"Town", 0}, {"tOwn", 0}, {"towns", 0}, {"townz", 0}, {"towna", 0}, {"town`", 4}, {"town{", 4}, {"cap 5/", 5}, {"cap 5:", 5}, {"tow", 0}, {"town town", 5}, {"town5", 4}, {"town 5", 5},
            {"town.", 4}, {"town\t", 4}, {"\ntown", 0}, {"\u00e9", 0}, {"\u0000", 0}, {"square 3", 0}, {"5", 0},
            {"gardenorchard", 0}, {"garden", 6}, {"garden ", 7}, {"garden 1", 8}, {"garden 1 2", 10},
            {"garden 1 2;", 10}, {"garden 21 1 1", 7}, {"garden 1 21 1", 9}, {"garden 1 1 100", 11},
            {"garden 001 1 1", 7}, {"garden 1 1 1 1", 13}, {"garden -1 1 1", 7}, {"garden 1,1 1", 8},
            {"garden x 1 1", 7}, {"garden 1 1 1x", 12}, {"orchard 21", 8}, {"alley 0 21", 8}, {"laundry 0 0", 11},
            {"laundry 99999999999999999999", 8}, {"cap", 3}, {"cap 4", 4}, {"cap 100", 4}, {"cap 5 5", 6},
            {"cap 0", 4}, {"inches 0", 7}, {"inches 21", 7}, {"inches", 6}, {"slope", 5}, {"slope 0", 6},
            {"alley 1 1 1;slope 0", 19}, {"alley 1 1 1;slope 0 0", 20}, {"alley 1 1 1;slope 0 1", 20},
            {"alley 1 1 1;slope 1 0", 18}, {"slope 0 1;alley 1 1 1;alley 1 1 1", 6},
            {"alley 1 1 1;alley 1 1 1;slope 0 2", 32}, {"alley 1 1 1;alley 1 1 1;slope 1 1", 32},
            {"alley 1 1 1;alley 1 1 1;town;slope 0 1", 35}, {times("town;", 14), 69}, {times("town;", 14) + "x", 69},
            {times("town;", 13), 65}, {times("town;", 13) + "towns", 65}, {times("town ", 2), 5},
            {times("alley 1 1 1;", 8) + "alley 1 1 1", 96}, {times("alley 1 1 1;", 8) + "garden", 96},
            {times("alley 1 1 1;", 8) + "orchard 99", 96}, {times("alley 1 1 1;", 8) + "laundry", 96},
            {times(" ", 160), 160}};
        for (Object[] pair : faults) due("P4 '" + pair[0] + "'", faultOf((String) pair[0]), (Integer) pair[1]);
        RainBallot x = of("alley 1 1 1");
        write(x, "slope 0 1;alley 1 1 1");
        due("P4 B is not told ahead", x.fault(), 8);
        x.erase();
        write(x, "alley 1 1 1;slope 0 1");
        due("P4 streets of earlier texts are told ahead", x.fault(), NONE);
        due("P4 fault() changes nothing", x.count(0) * 100 + x.count(9), 121);
        due("P4 fault() again", x.fault(), NONE);
    }

    private static void promise5() {
        RainBallot x = new RainBallot();
        due("P5 empty", x.town(), NOT);
        write(x, "cap 40;garden 5 5 5;alley 1 1 x");
        due("P5 with a fault", x.town(), NOT);
        due("P5 nothing changed", x.count(0) + x.count(2), 30);
        due("P5 the text stays", x.count(9), 31);
        x.erase();
        write(x, " garden 5 6 7; orchard 1 2 3 ;slope 0 1; cap 40;inches 20 ");
        due("P5 clauses", x.town(), 5);
        due("P5 the text is empty", x.count(9), 0);
        due("P5 the slope of 0", x.street(0, 4), 1);
        due("P5 the slope of 1", x.street(1, 4), NONE);
        due("P5 cap", x.count(2), 40);
        due("P5 inches", x.count(3), 20);
        x.day();
        x.hose(0, 20);
        x.poll(1, 20);
        x.keep(0);
        x.seen(0, 1);
        write(x, "slope 1 0;laundry 4 5 6;slope 0 2");
        due("P5 a text more", x.town(), 3);
        due("P5 what earlier texts told stays", x.count(0), 3);
        due("P5 the cap too", x.count(2), 40);
        due("P5 the inches too", x.count(3), 20);
        due("P5 water as told", x.street(0, 3), 7);
        due("P5 voters as told", x.street(1, 2), 2);
        due("P5 need as told", x.street(2, 1), 4);
        due("P5 a slope in place of another", x.street(0, 4), 2);
        due("P5 another slope", x.street(1, 4), 0);
        due("P5 day 0", x.count(1), 0);
        due("P5 it has not rained", x.count(6), NONE);
        due("P5 nothing is seen", x.count(7), 0);
        due("P5 nothing can be undone", x.count(8), 0);
        due("P5 undo()", x.undo(), NOT);
        due("P5 nothing is kept", x.back(0), NOT);
        write(x, "town;alley 3 2 1;inches 3");
        due("P5 town", x.town(), 3);
        due("P5 one street", x.count(0), 1);
        due("P5 without slope", x.street(0, 4), NONE);
        due("P5 cap as at first", x.count(2), 30);
        due("P5 inches told behind town", x.count(3), 3);
        write(x, "alley 1 1 1;alley 1 1 1;alley 1 1 1;alley 1 1 1;alley 1 1 1;alley 1 1 1;alley 1 1 1");
        due("P5 eight", x.town(), 7);
        write(x, "cap 9;garden 1 1 1");
        due("P5 no ninth", x.town(), NOT);
        due("P5 at its word", x.fault(), 6);
        x.erase();
        write(x, "town");
        due("P5 town alone", x.town(), 1);
        due("P5 no street", x.count(0), 0);
    }

    private static void promise6() {
        RainBallot x = of(FIVE);
        int[][] all = {{0, 10, 5, 3, 3, 0, 5}, {1, 8, 4, 9, NONE, 1, 4}, {2, 6, 9, 1, 0, NONE, 10},
            {3, 9, 7, 4, 2, 2, 0}, {0, 2, 3, 8, NONE, 2, 0}};
        for (int s = 0; s < 5; s++) {
            for (int what = 0; what < 7; what++) due("P6 street(" + s + ", " + what + ")", x.street(s, what), all[s][what]);
        }
        due("P6 street(-1, 9)", x.street(-1, 9), UNKNOWN);
        due("P6 street(5, 0)", x.street(5, 0), UNKNOWN);
        due("P6 street(max, 0)", x.street(Integer.MAX_VALUE, 0), UNKNOWN);
        due("P6 street(0, -1)", x.street(0, -1), OUTSIDE);
        due("P6 street(4, 7)", x.street(4, 7), OUTSIDE);
        due("P6 it rains on 2", x.day(), 2);
        due("P6 its votes are left out", x.street(2, 6), 0);
        // 0 has 2, 2 has 9, 3 has 3: 3 and 4 give to 0, which is driest.
        due("P6 to the driest", x.street(3, 5), 0);
        due("P6 votes", x.street(0, 6), 15);
        RainBallot alone = of("laundry 5 5 5");
        due("P6 a laundry alone", alone.street(0, 5), NONE);
        RainBallot even = of("garden 5 5 5;laundry 0 3 5;garden 6 1 5;alley 9 9 5");
        due("P6 of several the least, itself", even.street(0, 5), 0);
        due("P6 a laundry to others", even.street(1, 5), 0);
        due("P6 less than it wants", even.street(2, 5), 2);
        RainBallot back = of("garden 1 5 9;garden 5 5 1;laundry 0 2 9");
        due("P6 it rains on 1", back.day(), 1);
        due("P6 who has what it wants gives to the driest", back.street(1, 5), 0);
        RainBallot once = of("garden 20 5 0;garden 0 5 9");
        due("P6 it rains on 0", once.day(), 0);
        due("P6 it gives to itself, all the same", once.street(0, 5), 0);
        due("P6 but gets none", once.street(0, 6), 0);
    }

    private static void promise7() {
        RainBallot x = of(FIVE);
        int[][] all = {{10, 10, NOT, NOT, NOT}, {16, 16, 16, NOT, NOT}, {6, 6, NOT, 6, NOT}, {0, NOT, NOT, NOT, 0},
            {2, 2, NOT, NOT, NOT}};
        for (int s = 0; s < 5; s++) {
            for (int kind = 0; kind < 5; kind++) due("P7 as(" + s + ", " + kind + ")", x.as(s, kind), all[s][kind]);
        }
        due("P7 as(5, 9)", x.as(5, 9), UNKNOWN);
        due("P7 as(-1, 0)", x.as(-1, 0), UNKNOWN);
        due("P7 as(0, -1)", x.as(0, -1), OUTSIDE);
        due("P7 as(3, 5)", x.as(3, 5), OUTSIDE);
    }

    private static void promise8() {
        RainBallot x = of(FIVE);
        // 2 gets 9: 10, below the cap of 12, then all have 1 less.
        due("P8 day()", x.day(), 2);
        int[] first = {2, 8, 9, 3, 7};
        for (int s = 0; s < 5; s++) due("P8 water of " + s, x.street(s, 3), first[s]);
        due("P8 the day", x.count(1), 1);
        due("P8 where", x.count(6), 2);
        // 0: 2 and 9 are 11, 10 a day later; 1: 4 votes.
        due("P8 the second", x.day(), 0);
        due("P8 water of 0", x.street(0, 3), 10);
        RainBallot none = of("garden 9 5 0;garden 9 5 0");
        due("P8 a tie", none.day(), NONE);
        due("P8 0 at least", none.count(4), 0);
        due("P8 a day all the same", none.count(1), 1);
        due("P8 no voters", of("garden 9 0 0").day(), NONE);
        due("P8 1 is enough", of("garden 9 1 0").day(), 0);
        due("P8 a tie below the most", of("garden 9 1 0;garden 9 1 0;garden 9 2 0").day(), 2);
        RainBallot twice = of("garden 20 5 0;garden 20 2 0");
        due("P8 most", twice.day(), 0);
        due("P8 not twice", twice.day(), 1);
        due("P8 again", twice.day(), 0);
        // 19 and 8 are 27: 7 run to 1, whose 18 become 20, the cap, and 5 come to 0, where some fell: gone.
        RainBallot ring = of("cap 20;garden 20 9 19;alley 0 0 18;slope 0 1;slope 1 0");
        due("P8 ring", ring.day(), 0);
        due("P8 water of 0", ring.street(0, 3), 19);
        due("P8 water of 1", ring.street(1, 3), 19);
        // Water above the cap stays while nothing falls there: 2 and 8 on 1 are 10, nothing runs to 2.
        RainBallot above = of("alley 0 0 50;alley 0 0 0;alley 0 0 90;slope 0 1;slope 1 2;laundry 0 1 60");
        above.hose(1, 2);
        due("P8 the driest is 1", above.day(), 1);
        due("P8 water of 2 stays above the cap", above.street(2, 3), 89);
        // What was above the cap already runs, too: 47 leave 30, then 28 and 17 do, then 90 and 15 do.
        RainBallot over = of("orchard 20 1 39;alley 0 0 28;alley 0 0 90;slope 0 1;slope 1 2");
        due("P8 over", over.day(), 0);
        due("P8 water of 0", over.street(0, 3), 29);
        due("P8 water of 1", over.street(1, 3), 29);
        due("P8 water of 2", over.street(2, 3), 29);
        RainBallot gone = of("cap 5;inches 20;garden 20 1 0;alley 0 0 0");
        due("P8 gone", gone.day(), 0);
        due("P8 water of 0", gone.street(0, 3), 4);
        due("P8 water of 1", gone.street(1, 3), 0);
        RainBallot empty = new RainBallot();
        for (int i = 1; i <= 400; i++) due("P8 on the square", empty.day(), NONE);
        due("P8 day 400", empty.count(1), 400);
        // More calls than are promised, but the bound is the document's.
        for (int i = 401; i <= 999; i++) due("P8 on the square", empty.day(), NONE);
        due("P8 behind day 999", empty.day(), FULL);
        due("P8 it is day 999", empty.count(1), 999);
        for (int i = 7; i >= 0; i--) due("P8 what was refused can't be undone", empty.undo(), i);
        due("P8 8 days less", empty.count(1), 991);
    }

    private static void promise9() {
        RainBallot x = of("cap 10;garden 5 5 4;alley 0 0 0;slope 0 1");
        due("P9 hose(0, 1)", x.hose(0, 1), 5);
        due("P9 hose(0, 20): nothing runs", x.hose(0, 20), 25);
        due("P9 water of 1", x.street(1, 3), 0);
        for (int i = 0; i < 3; i++) x.hose(0, 20);
        due("P9 water", x.street(0, 3), 85);
        due("P9 99 at most", x.hose(0, 20), 99);
        due("P9 hose(2, 99)", x.hose(2, 99), UNKNOWN);
        due("P9 hose(-1, 1)", x.hose(-1, 1), UNKNOWN);
        due("P9 hose(0, 0)", x.hose(0, 0), OUTSIDE);
        due("P9 hose(0, 21)", x.hose(0, 21), OUTSIDE);
        due("P9 hose(0, -1)", x.hose(0, -1), OUTSIDE);
        due("P9 nothing changed", x.count(4), 99);
        due("P9 can be undone", x.count(8), 6);
        due("P9 no day", x.count(1), 0);
    }

    private static void promise10() {
        RainBallot x = of("garden 5 7 4;garden 5 6 4");
        due("P10 poll(0, 0)", x.poll(0, 0), 7);
        due("P10 poll(0, 20)", x.poll(0, 20), 0);
        due("P10 poll(0, 20) again", x.poll(0, 20), 20);
        due("P10 voters", x.street(0, 2), 20);
        due("P10 of the other", x.street(1, 2), 6);
        due("P10 poll(2, 21)", x.poll(2, 21), UNKNOWN);
        due("P10 poll(-1, 0)", x.poll(-1, 0), UNKNOWN);
        due("P10 poll(0, 21)", x.poll(0, 21), OUTSIDE);
        due("P10 poll(0, -1)", x.poll(0, -1), OUTSIDE);
        due("P10 can be undone", x.count(8), 3);
        due("P10 it votes so", x.day(), 0);
    }

    private static void promise11() {
        RainBallot x = of("garden 20 7 4;garden 5 6 99");
        due("P11 none", x.undo(), NOT);
        x.day();
        x.hose(1, 5);
        x.poll(0, 7);
        x.hose(0, 0);
        x.poll(0, 99);
        due("P11 poll is undone", x.undo(), 2);
        due("P11 hose is undone", x.undo(), 1);
        due("P11 water of 1", x.street(1, 3), 98);
        due("P11 day is undone", x.undo(), 0);
        due("P11 the day", x.count(1), 0);
        due("P11 it has not rained", x.count(6), NONE);
        due("P11 water of 0", x.street(0, 3), 4);
        due("P11 none is left", x.undo(), NOT);
        for (int i = 1; i <= 11; i++) {
            x.poll(0, i);
            due("P11 the last 8 can be", x.count(8), Math.min(i, 8));
        }
        for (int i = 7; i >= 0; i--) due("P11 undo to " + i, x.undo(), i);
        due("P11 as behind the third", x.street(0, 2), 3);
        due("P11 no more", x.undo(), NOT);
        x.poll(0, 9);
        due("P11 anew", x.undo(), 0);
        due("P11 what it was", x.street(0, 2), 3);
        x.seen(0, 1);
        x.keep(0);
        x.erase();
        due("P11 these can't be undone", x.undo(), NOT);
    }

    private static void promise12And13() {
        RainBallot x = of("garden 20 7 4;garden 20 6 9");
        due("P12 keep(-1)", x.keep(-1), UNKNOWN);
        due("P12 keep(2)", x.keep(2), UNKNOWN);
        due("P13 back(2)", x.back(2), UNKNOWN);
        due("P13 back(-1)", x.back(-1), UNKNOWN);
        due("P13 nothing was kept", x.back(0), NOT);
        due("P12 keep(0)", x.keep(0), 0);
        due("P13 not in 1", x.back(1), NOT);
        due("P13 day", x.day(), 0);
        x.poll(1, 3);
        x.seen(1, 2);
        write(x, "xy");
        due("P12 keep(1)", x.keep(1), 1);
        x.day();
        x.hose(0, 20);
        due("P12 what can be undone is not touched", x.count(8), 4);
        due("P13 back(1)", x.back(1), 1);
        due("P13 nothing can be undone", x.count(8), 0);
        due("P13 undo()", x.undo(), NOT);
        due("P13 where it rained", x.count(6), 0);
        due("P13 water", x.street(0, 3), 11);
        due("P13 voters", x.street(1, 2), 3);
        due("P13 the votes left out", x.street(0, 6), 0);
        due("P13 back(0)", x.back(0), 0);
        due("P13 it has not rained", x.count(6), NONE);
        due("P13 voters as kept", x.street(1, 2), 6);
        due("P13 what is seen stays", x.count(7), 1);
        due("P13 the text stays", x.count(9), 2);
        x.day();
        due("P13 once more", x.back(1), 1);
        x.day();
        due("P12 in place of the other", x.keep(1), 2);
        x.back(0);
        due("P13 the later one", x.back(1), 2);
        x.erase();
        write(x, "cap 4");
        due("P13 a text refused", x.town(), NOT);
        due("P13 forgets nothing", x.back(0), 0);
        x.erase();
        tell(x, "cap 50");
        due("P13 nothing since the last text", x.back(0), NOT);
        due("P13 in 1 too", x.back(1), NOT);
    }

    private static void promise14And15() {
        RainBallot x = of(FIVE);
        int[] places = {2, 0, 3, 4, 1, 2};
        for (int n = 1; n <= 6; n++) due("P14 where(" + n + ")", x.where(n), places[n - 1]);
        due("P14 where(0)", x.where(0), OUTSIDE);
        due("P14 where(31)", x.where(31), OUTSIDE);
        due("P14 where(-1)", x.where(-1), OUTSIDE);
        due("P15 wet(0, 0)", x.wet(0, 0), 3);
        due("P15 wet(0, 1)", x.wet(0, 1), 2);
        due("P15 wet(0, 2)", x.wet(0, 2), 10);
        due("P15 wet(2, 30)", x.wet(2, 30), 9);
        due("P15 wet(5, 99)", x.wet(5, 99), UNKNOWN);
        due("P15 wet(-1, 0)", x.wet(-1, 0), UNKNOWN);
        due("P15 wet(0, -1)", x.wet(0, -1), OUTSIDE);
        due("P15 wet(0, 31)", x.wet(0, 31), OUTSIDE);
        due("P14 nothing changed", x.count(1) * 1000 + x.count(4) * 10 + x.count(8), 250);
        int thirtieth = x.where(30);
        int[] wet = new int[5];
        for (int s = 0; s < 5; s++) wet[s] = x.wet(s, 30);
        for (int i = 0; i < 30; i++) x.day();
        due("P14 as it comes", x.count(6), thirtieth);
        for (int s = 0; s < 5; s++) due("P15 as it comes, " + s, x.street(s, 3), wet[s]);
        RainBallot dry = of("alley 1 1 20");
        due("P15 drought", dry.wet(0, 19), 1);
        due("P15 0 at least", dry.wet(0, 30), 0);
        due("P14 the square", dry.where(30), NONE);
    }

    private static void promise16() {
        RainBallot x = of(FIVE);
        int[] bits = {8, 8, 0, 17, NONE};
        for (int s = 0; s < 4; s++) due("P16 carry(" + s + ")", x.carry(s), bits[s]);
        // 4 gets 3 of its own if it asks nobody; 3 gives it 7: 7 to 5, 4 and 3.
        due("P16 carry(4)", x.carry(4), 8);
        due("P16 carry(5)", x.carry(5), UNKNOWN);
        due("P16 carry(-1)", x.carry(-1), UNKNOWN);
        x.day();
        due("P16 it rained there", x.carry(2), NONE);
        due("P16 nobody else", of("alley 1 9 1").carry(0), NONE);
        due("P16 alone", of("garden 1 9 0").carry(0), 0);
        due("P16 no voters", of("garden 1 0 0").carry(0), NONE);
        due("P16 an alley does not vote", of("alley 1 0 0;alley 0 9 9").carry(0), NONE);
        // 1 to 4 give 2 each to themselves; 0 has none: of all twos of streets the least.
        RainBallot even = of("alley 0 0 9;garden 9 2 0;garden 9 2 0;garden 9 2 0;garden 9 2 0");
        due("P16 of as few the least", even.carry(0), 6);
        due("P16 one is enough", even.carry(1), 4);
        due("P16 the least of the others", even.carry(2), 2);
        RainBallot strong = of("alley 0 0 9;garden 9 1 0;garden 9 1 0;garden 9 1 0;garden 9 3 0");
        due("P16 the fewest go before the least", strong.carry(0), 16);
        // 0 gives its own 20 to 1, the driest: 7 times 3 are needed.
        RainBallot all = of("garden 0 20 9;" + times("garden 9 3 0;", 6) + "garden 9 3 0");
        due("P16 all others", all.carry(0), 254);
        RainBallot tie = of("garden 9 2 0;garden 9 2 0");
        due("P16 a tie is not enough", tie.carry(0), 2);
        due("P16 nothing changed", tie.street(1, 5), 1);
    }

    private static void promise17() {
        RainBallot x = of("cap 10;inches 5;alley 0 0 6;alley 0 0 5;alley 0 0 9;alley 0 0 99;slope 0 1;slope 1 2;slope 2 0");
        // 0: 11, 1 runs to 1. 1: 10, nothing runs. 2: 14, 4 to 0: 10. 3: all is gone.
        int[] bits = {1 + 4, 2 + 1, 4, 8};
        for (int s = 0; s < 4; s++) due("P17 reach(" + s + ")", x.reach(s), bits[s]);
        due("P17 reach(4)", x.reach(4), UNKNOWN);
        due("P17 reach(-1)", x.reach(-1), UNKNOWN);
        due("P17 nothing changed", x.count(4), 119);
        x.hose(1, 1);
        // Now 1 has 6: from 0 (11) 1 comes to it: 7, nothing runs on; 5 on 1 itself are 11: 1 comes to 2.
        due("P17 reach(2)", x.reach(2), 2 + 4);
        due("P17 reach(0)", x.reach(0), 1 + 4);
        RainBallot ring = of("alley 0 0 30;alley 0 0 30;alley 0 0 30;slope 0 1;slope 1 2;slope 2 1");
        due("P17 into a ring", ring.reach(1), 7);
        due("P17 not up", ring.reach(0), 1);
        // Behind a day on which nobody votes all have 1 less.
        ring.day();
        due("P17 as it is now", ring.street(0, 3), 29);
        due("P17 7 of 8 run", ring.reach(2), 7);
        RainBallot chain = of("cap 5;inches 1;" + times("alley 0 0 5;", 7) + "garden 6 1 5");
        tell(chain, "slope 0 1;slope 1 2;slope 2 3;slope 3 4;slope 4 5;slope 5 6;slope 6 7");
        due("P17 down all eight", chain.reach(7), 255);
        tell(chain, "slope 7 0");
        for (int s = 0; s < 8; s++) due("P17 all round, " + s, chain.reach(s), 255);
    }

    private static void promise18() {
        RainBallot none = new RainBallot();
        due("P18 no streets", none.month(1, NONE), NONE);
        due("P18 no streets, 4", none.month(4, 3), NONE);
        due("P18 month(0, 0)", none.month(0, 0), OUTSIDE);
        RainBallot x = of("garden 5 0 0;garden 7 0 0;garden 9 0 9;laundry 9 0 0");
        // One day: 0 or 1 or 2 can have what it wants, and the laundry always has: 0 is the first.
        due("P18 month(1, NONE)", x.month(1, NONE), 2);
        due("P18 month(1, 0)", x.month(1, 0), 0);
        due("P18 month(1, 1)", x.month(1, 1), NONE);
        due("P18 month(1, 3)", x.month(1, 3), NONE);
        // Two days: 0 (8, 7, 6), then 1 (7); 2 lacks.
        due("P18 month(2, NONE)", x.month(2, NONE), 3);
        due("P18 month(2, 0)", x.month(2, 0), 0);
        due("P18 month(2, 1)", x.month(2, 1), 1);
        due("P18 month(2, 2)", x.month(2, 2), NONE);
        // Three: 1 must be last (7); 0 has 5 behind the first day, too, and so it is 0 2 1.
        due("P18 month(3, NONE)", x.month(3, NONE), 4);
        due("P18 month(3, 0)", x.month(3, 0), 0);
        due("P18 month(3, 1)", x.month(3, 1), 2);
        due("P18 month(3, 2)", x.month(3, 2), 1);
        due("P18 month(3, 3)", x.month(3, 3), NONE);
        // Four: the first row that has all: 0 0 2 1 (0: 8 + 8 - 4).
        int[] row = {0, 0, 2, 1};
        due("P18 month(4, NONE)", x.month(4, NONE), 4);
        for (int k = 0; k < 4; k++) due("P18 month(4, " + k + ")", x.month(4, k), row[k]);
        due("P18 month(5, 0)", x.month(5, 0), OUTSIDE);
        due("P18 month(0, 0)", x.month(0, 0), OUTSIDE);
        due("P18 month(1, 4)", x.month(1, 4), OUTSIDE);
        due("P18 month(1, -2)", x.month(1, -2), OUTSIDE);
        due("P18 nothing changed", x.count(4) + x.count(1), 9);
        // 20 on 0 leave 5 there, and 5 on 1, and 5 on 2: 4 each.
        RainBallot run = of("cap 5;inches 20;garden 4 0 0;alley 4 0 0;alley 4 0 0;slope 0 1;slope 1 2");
        due("P18 with run-off", run.month(1, NONE), 3);
        due("P18 by 0", run.month(1, 0), 0);
        // What falls takes what was above the cap already away; it can't stay dry.
        RainBallot high = of("cap 5;orchard 20 0 99");
        due("P18 it must rain", high.month(1, NONE), 0);
        due("P18 on a street", high.month(1, 0), 0);
        RainBallot poor = of("garden 20 0 0;garden 7 0 0");
        due("P18 by 1", poor.month(1, 0), 1);
        tell(poor, "town;garden 20 0 0;garden 20 0 0");
        due("P18 none has what it wants", poor.month(1, NONE), 0);
        due("P18 and the first is the row", poor.month(1, 0), 0);
        RainBallot eight = of(times("garden 20 1 0;", 7) + "orchard 20 1 0");
        due("P18 with eight streets", eight.month(4, NONE), 1);
        due("P18 the first of them", eight.month(4, 0), 0);
        due("P18 the last of them", eight.month(4, 3), 0);
    }

    private static void promise19And20() {
        RainBallot x = of("garden 5 5 5;garden 5 5 5");
        due("P20 forget nothing", x.forget(), 0);
        due("P19 seen(2, 99)", x.seen(2, 99), UNKNOWN);
        due("P19 seen(-2, 1)", x.seen(-2, 1), UNKNOWN);
        due("P19 seen(0, 0)", x.seen(0, 0), OUTSIDE);
        due("P19 seen(NONE, 21)", x.seen(NONE, 21), OUTSIDE);
        due("P19 seen(0, 1)", x.seen(0, 1), 1);
        due("P19 seen(0, 1) again", x.seen(0, 1), 2);
        due("P19 seen(1, 1)", x.seen(1, 1), 3);
        due("P19 seen(NONE, 20)", x.seen(NONE, 20), 4);
        due("P19 seen(1, 20)", x.seen(1, 20), 5);
        due("P19 the sixth", x.seen(1, 2), 6);
        due("P19 a seventh", x.seen(1, 2), FULL);
        due("P19 UNKNOWN goes before FULL", x.seen(2, 1), UNKNOWN);
        due("P19 OUTSIDE goes before FULL", x.seen(0, 21), OUTSIDE);
        due("P19 count(7)", x.count(7), 6);
        x.day();
        x.undo();
        due("P19 a day and undo leave it", x.count(7), 6);
        due("P20 forget", x.forget(), 6);
        due("P20 count(7)", x.count(7), 0);
        due("P20 forget again", x.forget(), 0);
        due("P19 anew", x.seen(1, 2), 1);
    }

    private static void promise21() {
        int any = (1 << 21) - 1;
        RainBallot x = of("garden 20 5 0;garden 20 3 0");
        due("P21 nothing is seen", x.polls(0), any);
        due("P21 polls(2)", x.polls(2), UNKNOWN);
        due("P21 polls(-1)", x.polls(-1), UNKNOWN);
        x.seen(0, 1);
        due("P21 more than 3", x.polls(0), any & ~15);
        due("P21 fewer than 5", x.polls(1), 31);
        x.forget();
        x.seen(NONE, 1);
        due("P21 a tie", x.polls(0), 1 << 3);
        x.seen(0, 1);
        due("P21 both can't be", x.polls(0), 0);
        x.forget();
        // Behind rain on 0 it is 1's turn, by its 3 votes; 0's are left out. With none on 0 it rains on 1 first, then on 0.
        x.seen(1, 2);
        due("P21 the second day", x.polls(0), any & ~15);
        due("P21 1 is to have voters", x.polls(1), 30);
        x.forget();
        x.seen(0, 2);
        due("P21 0 on the second day", x.polls(0), 6);
        x.forget();
        x.seen(1, 1);
        x.day();
        due("P21 from now on", x.polls(0), any);
        due("P21 from now on, by 1", x.polls(1), any & ~1);
        due("P21 nothing changed", x.street(0, 2) * 10 + x.street(1, 2), 53);
        // Rain on 0, square, 0, square, 0, square, 0 (25), then by its votes on 1, square, 1, square, 1, square,
        // 0 (26), 1, square, 1 (29), 0 (29), 1 (29), 0.
        RainBallot far = of("garden 20 5 0;alley 0 9 0");
        far.seen(1, 19);
        far.seen(0, 20);
        due("P21 twenty days", far.polls(0), any & ~1);
        due("P21 an alley does not vote", far.polls(1), any);
        far.seen(NONE, 18);
        due("P21 one of three is not so", far.polls(0), 0);
    }

    private static void promise22() {
        RainBallot none = new RainBallot();
        due("P22 no streets", none.chance(NONE, 5, 0) * 10 + none.chance(NONE, 5, 1), 11);
        due("P22 UNKNOWN", none.chance(0, 11, 0), UNKNOWN);
        RainBallot x = of("garden 20 5 0;garden 20 3 0;alley 20 9 0");
        // 0 carries unless it is at home: 7 of 10; 1 if 0 is and 1 is not: 3 x 7 of 100; none: 3 x 3 of 100.
        due("P22 0 above", x.chance(0, 3, 0), 7);
        due("P22 0 below", x.chance(0, 3, 1), 10);
        due("P22 1 above", x.chance(1, 3, 0), 21);
        due("P22 1 below", x.chance(1, 3, 1), 100);
        due("P22 none above", x.chance(NONE, 3, 0), 9);
        due("P22 none below", x.chance(NONE, 3, 1), 100);
        due("P22 an alley above", x.chance(2, 3, 0), 0);
        due("P22 an alley below", x.chance(2, 3, 1), 1);
        due("P22 lowest terms above", x.chance(1, 5, 0), 1);
        due("P22 lowest terms below", x.chance(1, 5, 1), 4);
        due("P22 all come", x.chance(0, 0, 0) * 10 + x.chance(0, 0, 1), 11);
        due("P22 all stay", x.chance(NONE, 10, 0) * 10 + x.chance(NONE, 10, 1), 11);
        due("P22 all stay, 0", x.chance(0, 10, 0) * 10 + x.chance(0, 10, 1), 1);
        due("P22 street 3", x.chance(3, 3, 0), UNKNOWN);
        due("P22 street -2", x.chance(-2, 3, 0), UNKNOWN);
        due("P22 q -1", x.chance(0, -1, 0), OUTSIDE);
        due("P22 q 11", x.chance(0, 11, 0), OUTSIDE);
        due("P22 part 2", x.chance(0, 3, 2), OUTSIDE);
        due("P22 part -1", x.chance(0, 3, -1), OUTSIDE);
        x.day();
        due("P22 not where it rained", x.chance(0, 3, 0) * 10 + x.chance(0, 3, 1), 1);
        due("P22 but on 1", x.chance(1, 3, 0) * 100 + x.chance(1, 3, 1), 710);
        // A tie of two: one of them alone is 2 x 9 of 100 for each, by one at home.
        RainBallot tie = of("garden 20 4 0;garden 20 4 0");
        due("P22 tie above", tie.chance(0, 1, 0), 9);
        due("P22 tie below", tie.chance(0, 1, 1), 100);
        due("P22 tie, none, above", tie.chance(NONE, 1, 0), 41);
        due("P22 tie, none, below", tie.chance(NONE, 1, 1), 50);
        // Eight gardens of 1 voter: 0 alone is out: 0.7 x 0.3 to the 7th.
        RainBallot eight = of(times("garden 20 1 0;", 7) + "garden 20 1 0");
        due("P22 eight above", eight.chance(0, 3, 0), 7 * 2187);
        due("P22 eight below", eight.chance(0, 3, 1), 100000000);
    }

    private static void promise23() {
        RainBallot x = of(FIVE);
        int[] counts = {5, 0, 12, 9, 25, 8 + 16, NONE, 0, 0, 0};
        for (int i = 0; i < 10; i++) due("P23 count(" + i + ")", x.count(i), counts[i]);
        due("P23 count(-1)", x.count(-1), OUTSIDE);
        due("P23 count(10)", x.count(10), OUTSIDE);
        x.day();
        x.hose(0, 8);
        x.seen(2, 2);
        write(x, "cap");
        // 10, 8, 9, 3, 7
        int[] later = {5, 1, 12, 9, 37, 1 + 4 + 8 + 16, 2, 1, 2, 3};
        for (int i = 0; i < 10; i++) due("P23 then count(" + i + ")", x.count(i), later[i]);
        x.erase();
        RainBallot tie = of("garden 9 5 9;garden 9 5 8");
        due("P23 just what it wants", tie.count(5), 1);
        due("P23 rain", tie.day(), 1);
        due("P23 on the square", tie.day() == NONE ? tie.count(6) : NONE, NONE);
    }

    public static void main(String[] args) {
        promise1();
        promise2();
        promise3();
        promise4();
        promise5();
        promise6();
        promise7();
        promise8();
        promise9();
        promise10();
        promise11();
        promise12And13();
        promise14And15();
        promise16();
        promise17();
        promise18();
        promise19And20();
        promise21();
        promise22();
        promise23();
        System.out.println(asked + " answers, " + wrong + " are not as due");
        if (wrong != 0) System.exit(1);
    }
}
