/** Promises 15 to 30: loads and years. */
public final class YearsTest {
    /**
     * A cell of strength 10 (square 100) under 100 loads of 10 tonnes (base 100) with SOFT 10 wears
     * 100, 101, .. units and gets ruts of 10, 20, .. 100 (10 years), 111, 122, 133, 144, 155.
     */
    private static final String TEXT = "road 3 2;design asphalt 20 sand 15;load 0 0 1 10 100;";

    public static void main(String[] args) {
        base();
        baseOf();
        heaviest();
        units();
        failsBy();
        yearsLeft();
        nthCell();
        lanes();
        exactly();
        growing();
        removedLoads();
        failing();
        forecasts();
        countIn();
        yearsWith();
        yearsIfClosed();
        safestClosing();
        Check.finish("YearsTest");
    }

    private static void base() {
        Check.promise(15);
        // 3 * 81 / 10000 and 9999 * 1 / 10000 are 0, each; 16 * 1296 / 10000 is 2; 81 * 10000 / 10000 is 81
        RoadWear road = Check.road("road 4 2;load 0 0 3 3 3;load 0 0 3 1 9999;load 0 1 2 6 16;load 0 2 3 10 81;"
                + "load 1 3 3 30 999999;");
        long[] bases = {0, 2, 83, 81, 0, 0, 0, 80999919};
        for (int cell = 0; cell < 8; cell++) {
            Check.due("base(" + cell + ")", road.base(cell), bases[cell]);
        }
        road.close(0, true);
        long[] closed = {0, 0, 0, 0, 0, 2, 83, 81000000};
        for (int cell = 0; cell < 8; cell++) {
            Check.due("base(" + cell + ") with a closed lane", road.base(cell), closed[cell]);
        }
        Check.throwing("cell 8", Check.INDEX, () -> road.base(8));
        Check.throwing("cell -1", Check.INDEX, () -> road.base(-1));
    }

    private static void baseOf() {
        Check.promise(16);
        RoadWear road = Check.road("road 4 2;load 0 1 2 6 16;load 1 3 3 30 999999;");
        Check.due("on it", road.baseOf(0, 1), 2L);
        Check.due("on it", road.baseOf(0, 2), 2L);
        Check.due("ahead of it", road.baseOf(0, 0), 0L);
        Check.due("behind it", road.baseOf(0, 3), 0L);
        Check.due("another lane", road.baseOf(0, 5), 0L);
        Check.due("on it", road.baseOf(1, 7), 80999919L);
        road.close(1, true);
        Check.due("another lane now", road.baseOf(1, 7), 0L);
        Check.due("on it now", road.baseOf(1, 3), 80999919L);
        Check.throwing("load 2", Check.INDEX, () -> road.baseOf(2, 0));
        Check.throwing("load -1", Check.INDEX, () -> road.baseOf(-1, 0));
        Check.throwing("cell 8", Check.INDEX, () -> road.baseOf(0, 8));
        Check.throwing("cell -1", Check.INDEX, () -> road.baseOf(0, -1));
    }

    private static void heaviest() {
        Check.promise(17);
        RoadWear road = Check.road("road 3 2;load 0 0 0 1 9;load 0 0 1 10 5;load 0 0 1 10 7;load 0 1 1 10 7;load 1 2 2 20 1;");
        Check.due("the greatest share", road.heaviest(0), 2);
        Check.due("the smallest one on a tie", road.heaviest(1), 2);
        Check.due("none is there", road.heaviest(2), RoadWear.NONE);
        Check.due("another lane", road.heaviest(5), 4);
        road.removeLoad(2);
        Check.due("the greatest share", road.heaviest(1), 2);
        road.setCount(1, 0);
        Check.due("none adds anything", road.heaviest(0), RoadWear.NONE);
        Check.throwing("cell 6", Check.INDEX, () -> road.heaviest(6));
        Check.throwing("cell -1", Check.INDEX, () -> road.heaviest(-1));
    }

    private static void units() {
        Check.promise(18);
        RoadWear road = Check.road(TEXT + "rut 1 0 9;rut 2 0 50;");
        Check.due("no rut", road.units(0), 100L);
        Check.due("rounded down", road.units(1), 100L);
        Check.due("no load", road.units(2), 0L);
        road.measure(1, 19);
        Check.due("rounded down", road.units(1), 101L);
        road.measure(1, 9999);
        Check.due("a deep rut", road.units(1), 1099L);
        Check.throwing("cell 6", Check.INDEX, () -> road.units(6));
        Check.throwing("cell -1", Check.INDEX, () -> road.units(-1));
    }

    private static void failsBy() {
        Check.promise(19);
        RoadWear road = Check.road(TEXT + "life 1;limit 20;rut 0 1 20;rut 1 1 19;");
        Check.due("not", road.failsBy(0), 0);
        Check.due("its rut", road.failsBy(3), 1);
        Check.due("not yet", road.failsBy(4), 0);
        road.pass(1);
        Check.due("as much as its capacity", road.failsBy(0), 2);
        road.pass(1);
        Check.due("both", road.failsBy(0), 3);
        road.set(2, 3);
        Check.due("its rut", road.failsBy(1), 1);
        Check.throwing("cell 6", Check.INDEX, () -> road.failsBy(6));
        Check.throwing("cell -1", Check.INDEX, () -> road.failsBy(-1));
    }

    private static void yearsLeft() {
        Check.promise(20);
        RoadWear road = Check.road(TEXT + "rut 0 1 150;rut 1 1 149;");
        Check.due("by its rut", road.yearsLeft(0), 15);
        Check.due("no load", road.yearsLeft(2), RoadWear.NONE);
        Check.due("now", road.yearsLeft(3), 0);
        Check.due("never", road.yearsLeft(4), RoadWear.NONE);
        road.set(2, 10);
        Check.due("by what it has worn: 936 in 9 years, 1045 in 10", road.yearsLeft(0), 10);
        road.pass(9);
        Check.due("9 years later", road.yearsLeft(0), 1);
        road.pass(1);
        Check.due("10 years later", road.yearsLeft(0), 0);
        Check.throwing("cell 6", Check.INDEX, () -> road.yearsLeft(6));
        Check.throwing("cell -1", Check.INDEX, () -> road.yearsLeft(-1));
        // 10 units each year, too few for a rut
        RoadWear slow = Check.road("road 1 1;design asphalt 20 sand 15;load 0 0 0 10 10;soft 1;life 6;");
        Check.due("in 60 years", slow.yearsLeft(0), 60);
        slow.set(2, 7);
        Check.due("not within 60 years", slow.yearsLeft(0), RoadWear.NONE);
        slow.pass(60);
        slow.pass(9);
        Check.due("one more", slow.yearsLeft(0), 1);
        RoadWear old = Check.road("road 1 1;design asphalt 20 sand 15;load 0 0 0 10 10;soft 1;life 51;");
        for (int time = 0; time < 10; time++) {
            old.pass(50);
        }
        Check.due("the year", old.count(5), 500);
        Check.due("beyond the year 500", old.yearsLeft(0), 10);
    }

    private static void nthCell() {
        Check.promise(21);
        // lane 0 fails: cells 0 and 1 in 15 years, cell 3 now; of the others 5 is weakest
        RoadWear road = Check.road(TEXT + "rut 0 1 150;money 99999;");
        int[] order = {3, 0, 1, 2, 4, 5};
        for (int index = 0; index < 6; index++) {
            Check.due("nthCell(" + index + ")", road.nthCell(index), order[index]);
        }
        road.drill(5, 3, 80);
        road.patch(RoadWear.REBUILD, 0, 0);
        road.patch(RoadWear.REBUILD, 1, 0);
        road.patch(RoadWear.REBUILD, 4, 0);
        // strengths: 6 at 2, 3 and 5, else 10
        int[] later = {3, 0, 1, 2, 5, 4};
        for (int index = 0; index < 6; index++) {
            Check.due("nthCell(" + index + ") by strength", road.nthCell(index), later[index]);
        }
        Check.throwing("index 6", Check.INDEX, () -> road.nthCell(6));
        Check.throwing("index -1", Check.INDEX, () -> road.nthCell(-1));
    }

    private static void lanes() {
        RoadWear road = Check.road(TEXT + "load 0 1 2 10 100;");
        Check.promise(22);
        Check.due("the least of them", road.laneYears(0), road.yearsLeft(1));
        Check.due("more than one load", road.laneYears(0) < 15, true);
        Check.due("none", road.laneYears(1), RoadWear.NONE);
        Check.throwing("lane 2", Check.INDEX, () -> road.laneYears(2));
        Check.throwing("lane -1", Check.INDEX, () -> road.laneYears(-1));
        Check.promise(23);
        Check.due("the fewest", road.firstFailing(0), 1);
        Check.due("none", road.firstFailing(1), RoadWear.NONE);
        road.measure(5, 150);
        Check.due("now", road.firstFailing(1), 2);
        road.measure(4, 151);
        Check.due("the smallest one on a tie", road.firstFailing(1), 1);
        Check.throwing("lane 2", Check.INDEX, () -> road.firstFailing(2));
        Check.throwing("lane -1", Check.INDEX, () -> road.firstFailing(-1));
        Check.promise(22);
        Check.due("now", road.laneYears(1), 0);
    }

    /**
     * A cell of strength 100 with a capacity of 10000 under 199 units a year and no rut: 51 years, but 50 with 1
     * percent more or any unit more. Other forecasts are asked between, and must leave nothing behind.
     */
    private static final String EXACT = "road 2 2;design asphalt 200 sand 150;load 0 0 0 10 199;soft 1;life 1;"
            + "over 1;build 99;money 0;";

    private static void exactly() {
        RoadWear road = Check.road(EXACT);
        road.yearsWith(0, 900);
        Check.promise(20);
        Check.due("yearsLeft", road.yearsLeft(0), 51);
        road.yearsIfClosed(1, 0);
        Check.due("yearsLeft", road.yearsLeft(0), 51);
        Check.promise(21);
        RoadWear two = Check.road(EXACT + "load 1 1 1 10 200;");
        two.yearsWith(0, 900);
        Check.due("50 years are ahead of 51", two.nthCell(0), 3);
        Check.due("50 years are ahead of 51", two.nthCell(1), 0);
        Check.promise(22);
        road.yearsWith(0, 900);
        Check.due("laneYears by the station 0", road.laneYears(0), 51);
        Check.promise(23);
        two.addLoad(0, 1, 1, 10, 200, 0);
        two.yearsWith(0, 900);
        Check.due("firstFailing", two.firstFailing(0), 1);
        road.yearsIfClosed(1, 0);
        Check.due("firstFailing is the station 0", road.firstFailing(0), 0);
        Check.promise(24);
        road.yearsWith(0, 900);
        Check.due("failing", road.failing(50), 0);
        Check.due("failing", road.failing(51), 1);
        Check.promise(25);
        road.yearsIfClosed(1, 0);
        Check.due("rutIn", Check.road(EXACT + "limit 999;rut 0 0 500;").rutIn(0, 60), 500);
        road.set(0, 51);
        road.yearsWith(0, 900);
        Check.due("rutIn: 199 * 51 / 10000 is 1", road.rutIn(0, 1), 1);
        road.undo();
        Check.promise(26);
        road.yearsWith(0, 900);
        Check.due("wornIn", road.wornIn(0, 60), 11940L);
        Check.promise(28);
        Check.due("yearsWith 0", road.yearsWith(0, 0), 51);
        Check.due("yearsWith 1", road.yearsWith(0, 1), 50);
        Check.promise(29);
        road.yearsWith(0, 900);
        Check.due("yearsIfClosed", road.yearsIfClosed(0, 1), 51);
        Check.due("yearsIfClosed", road.yearsIfClosed(1, 0), 51);
        Check.promise(36);
        road.yearsWith(0, 900);
        Check.due("yearsBehind", road.yearsBehind(RoadWear.FILL, 0, 0), 51);
        Check.promise(37);
        road.yearsWith(0, 900);
        Check.due("cheapest", road.cheapest(0, 50), 0);
        Check.promise(38);
        road.yearsWith(0, 900);
        Check.due("planCost", road.planCost(50), 0);
        Check.promise(55);
        road.yearsWith(0, 900);
        road.printLane(0);
        Check.due("printLane", Check.output(road), "51 #");
        Check.promise(41);
        road.yearsWith(0, 900);
        road.pass(60);
        Check.due("pass", road.worn(0), 11940L);
    }

    /** 100, 120, 144 and 172 units, of which the ruts make no more. */
    private static void growing() {
        RoadWear road = Check.road("road 1 1;design asphalt 200 sand 150;load 0 0 0 10 100 grows 20;soft 1;life 1;");
        Check.promise(26);
        Check.due("wornIn 4", road.wornIn(0, 4), 536L);
        Check.promise(25);
        road.set(0, 100);
        Check.due("rutIn 4: 1 a year", road.rutIn(0, 4), 4);
        road.set(0, 999);
        // 9, then 120 * 1009 / 1000 = 121: 12, then 144 * 1021 / 1000 = 147: 14
        Check.due("rutIn 3: 9, 12 and 14", road.rutIn(0, 3), 35);
        Check.promise(20);
        road.set(0, 1);
        // 100 + 120 + 144 + 172 + 206 + 247 + 296 + 355 + 426 + 511 + 613 + 735 + 882 + 1058 + 1269 is 7134, 1522 more
        // 8656, 1826 more 10482
        Check.due("yearsLeft", road.yearsLeft(0), 17);
        Check.promise(28);
        // all 80 percent more: 180, 216, 259, 310, 372, 446, 535, 642, 770, 924, 1108, 1329, 1594 are 8685, 1912 more
        Check.due("yearsWith grows from there", road.yearsWith(0, 80), 14);
    }

    /** What a removed load leaves in its row must not count. */
    private static void removedLoads() {
        RoadWear road = Check.road("road 2 1;load 0 0 1 10 1;load 0 0 1 20 900;life 1;");
        Check.promise(17);
        Check.due("heaviest", road.heaviest(0), 1);
        road.removeLoad(1);
        Check.due("heaviest", road.heaviest(0), 0);
        road.setCount(0, 0);
        Check.due("heaviest", road.heaviest(0), RoadWear.NONE);
        road.setCount(0, 1);
        Check.promise(15);
        Check.due("base", road.base(1), 1L);
        Check.promise(20);
        Check.due("yearsLeft", road.yearsLeft(0), RoadWear.NONE);
        Check.promise(26);
        Check.due("wornIn", road.wornIn(0, 60), 60L);
        Check.promise(41);
        road.pass(1);
        Check.due("worn", road.worn(0), 1L);
    }

    private static void failing() {
        Check.promise(24);
        RoadWear road = Check.road(TEXT + "rut 0 1 150;");
        Check.due("now", road.failing(1), 1);
        Check.due("14", road.failing(14), 1);
        Check.due("15", road.failing(15), 3);
        Check.due("60", road.failing(60), 3);
        Check.throwing("0", Check.ARGUMENT, () -> road.failing(0));
        Check.throwing("61", Check.ARGUMENT, () -> road.failing(61));
        Check.throwing("-1", Check.ARGUMENT, () -> road.failing(-1));
    }

    private static void forecasts() {
        RoadWear road = Check.road(TEXT + "rut 2 0 77;");
        int[] ruts = {10, 20, 30, 40, 50, 60, 70, 80, 90, 100, 111, 122, 133, 144, 155};
        long worn = 0;
        for (int years = 1; years <= 15; years++) {
            worn += 99 + years;
            Check.promise(25);
            Check.due("rutIn(0, " + years + ")", road.rutIn(0, years), ruts[years - 1]);
            Check.promise(26);
            Check.due("wornIn(0, " + years + ")", road.wornIn(0, years), worn);
        }
        Check.promise(25);
        Check.due("a failing cell goes on", road.rutIn(0, 60) > 155, true);
        Check.due("no load", road.rutIn(2, 60), 77);
        Check.due("nothing passes", road.cell(0, 2), 0);
        RoadWear heavy = Check.road("road 1 1;load 0 0 0 30 999999 grows 20;");
        Check.due("9999 at most", heavy.rutIn(0, 1), 9999);
        Check.throwing("cell", Check.INDEX, () -> road.rutIn(6, 0));
        Check.throwing("cell", Check.INDEX, () -> road.rutIn(-1, 1));
        Check.throwing("years", Check.ARGUMENT, () -> road.rutIn(0, 0));
        Check.throwing("years", Check.ARGUMENT, () -> road.rutIn(0, 61));
        Check.promise(26);
        Check.due("no load", road.wornIn(2, 60), 0L);
        Check.due("nothing passes", road.worn(0), 0L);
        // 80999919 units at first, then 59 times 80999919 * 10999 / 1000
        Check.due("great numbers", heavy.wornIn(0, 60), 80999919L + 59 * 890918109L);
        Check.throwing("cell", Check.INDEX, () -> road.wornIn(6, 0));
        Check.throwing("cell", Check.INDEX, () -> road.wornIn(-1, 1));
        Check.throwing("years", Check.ARGUMENT, () -> road.wornIn(0, 0));
        Check.throwing("years", Check.ARGUMENT, () -> road.wornIn(0, 61));
    }

    private static void countIn() {
        Check.promise(27);
        RoadWear road = Check.road("road 1 1;load 0 0 0 1 100 grows 20;load 0 0 0 1 999999 grows 20;load 0 0 0 1 7;"
                + "load 0 0 0 1 4 grows 20;");
        int[] counts = {120, 144, 172, 206, 247};
        for (int years = 1; years <= 5; years++) {
            Check.due("countIn(0, " + years + ")", road.countIn(0, years), counts[years - 1]);
        }
        Check.due("999999 at most", road.countIn(1, 60), 999999);
        Check.due("no growth", road.countIn(2, 60), 7);
        Check.due("too few to grow", road.countIn(3, 60), 4);
        road.close(0, true);
        Check.due("also if all lanes are closed", road.countIn(0, 2), 144);
        Check.due("nothing passes", road.load(0, 4), 100);
        Check.throwing("load", Check.INDEX, () -> road.countIn(4, 0));
        Check.throwing("load", Check.INDEX, () -> road.countIn(-1, 1));
        Check.throwing("years", Check.ARGUMENT, () -> road.countIn(0, 0));
        Check.throwing("years", Check.ARGUMENT, () -> road.countIn(0, 61));
    }

    private static void yearsWith() {
        Check.promise(28);
        RoadWear road = Check.road(TEXT + "life 10;");
        Check.due("0", road.yearsWith(0, 0), 10);
        // base 200: units 200, 204, 208, 212, 216: 1040 in 5 years
        Check.due("100", road.yearsWith(0, 100), 5);
        Check.due("900: 1000 in a year", road.yearsWith(0, 900), 1);
        // 199 a year at first: 1035 in 5 years, as the ruts are 19, 39, 59, 80
        Check.due("99", road.yearsWith(0, 99), 5);
        Check.due("no load", road.yearsWith(2, 900), RoadWear.NONE);
        Check.due("nothing changes", road.load(0, 4), 100);
        Check.throwing("cell", Check.INDEX, () -> road.yearsWith(6, -1));
        Check.throwing("cell", Check.INDEX, () -> road.yearsWith(-1, 0));
        Check.throwing("percent", Check.ARGUMENT, () -> road.yearsWith(0, -1));
        Check.throwing("percent", Check.ARGUMENT, () -> road.yearsWith(0, 901));
        // strength 1012 without an overlay is 880: 774400 * 999 * 1 a year of 0..; counts end at 999999
        RoadWear many = Check.road("road 1 1;design asphalt 500 asphalt 500 asphalt 500 asphalt 500;soft 1;life 9999;"
                + "load 0 0 0 30 999999;");
        Check.due("999999 at most", many.yearsWith(0, 900), many.yearsWith(0, 0));
        RoadWear small = Check.road("road 1 1;design asphalt 20 sand 15;soft 1;life 1;load 0 0 0 10 1;");
        Check.due("1 * 199 / 100 is 1", small.yearsWith(0, 99), RoadWear.NONE);
        Check.due("1 * 200 / 100 is 2", small.yearsWith(0, 100), 50);
    }

    private static void yearsIfClosed() {
        Check.promise(29);
        RoadWear road = Check.road("road 3 2;design asphalt 20 sand 15;load 0 0 1 10 100;load 1 1 1 10 100;life 10;");
        Check.due("as it is", road.laneYears(0), 10);
        Check.due("the other one's loads come", road.yearsIfClosed(0, 1), 5);
        Check.due("its own loads go", road.yearsIfClosed(0, 0), RoadWear.NONE);
        Check.due("the other one's loads come", road.yearsIfClosed(1, 0), 5);
        Check.due("it is not closed", road.count(11), 0);
        road.close(1, true);
        Check.due("closed already", road.yearsIfClosed(0, 1), 5);
        Check.due("all are closed", road.yearsIfClosed(0, 0), RoadWear.NONE);
        road.measure(5, 150);
        Check.due("failing now", road.yearsIfClosed(1, 1), 0);
        Check.throwing("lane", Check.INDEX, () -> road.yearsIfClosed(2, 0));
        Check.throwing("lane", Check.INDEX, () -> road.yearsIfClosed(-1, 0));
        Check.throwing("other", Check.INDEX, () -> road.yearsIfClosed(0, 2));
        Check.throwing("other", Check.INDEX, () -> road.yearsIfClosed(0, -1));
    }

    private static void safestClosing() {
        Check.promise(30);
        RoadWear road = Check.road("road 3 3;design asphalt 20 sand 15;load 0 0 1 10 100;load 1 1 1 10 100;"
                + "load 2 2 2 10 100;life 10;");
        // with 0 or 1 closed two loads meet in 5 years; with 2 closed its load comes to the station 2 of lane 1
        Check.due("the best", road.safestClosing(), 2);
        road.addLoad(1, 2, 2, 10, 100, 0);
        Check.due("the smallest one on a tie", road.safestClosing(), 0);
        road.close(0, true);
        Check.due("not a closed one", road.safestClosing(), 1);
        road.close(2, true);
        Check.due("the last one: none fails then", road.safestClosing(), 1);
        road.close(1, true);
        Check.due("no lane is open", road.safestClosing(), RoadWear.NONE);
        // with the weak lane 1 under both loads it fails sooner than the strong lane 0
        RoadWear strong = Check.road("road 1 2;core 0 0 asphalt 200;core 0 1 asphalt 50;load 0 0 0 10 100;"
                + "load 1 0 0 10 100;");
        Check.due("the last lane counts", strong.safestClosing(), 1);
        RoadWear first = Check.road("road 2 2;core 0 0 asphalt 50;core 0 1 asphalt 200;load 0 0 0 10 100;"
                + "load 1 0 0 10 100;");
        Check.due("the first station counts", first.safestClosing(), 0);
        // 199 units a year: 51 years of lane 0 (10000), 50 of lane 1 (9801); with 200 both would be 50
        RoadWear exact = Check.road("road 1 2;core 0 0 asphalt 200 sand 150;core 0 1 asphalt 200 sand 140;soft 1;"
                + "life 1;load 0 0 0 10 199;");
        exact.yearsWith(0, 900);
        Check.due("a year more", exact.safestClosing(), 1);
        RoadWear failing = Check.road("road 1 2;rut 0 0 999;");
        Check.due("a cell fails whatever is closed", failing.safestClosing(), 0);
    }
}
