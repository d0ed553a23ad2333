import java.util.ArrayList;
import java.util.Arrays;
import java.util.List;

/**
 * The edges that the document's section "Terms" names, sentence by sentence. Promise 0 stands for the terms.
 */
public final class EdgeTermsTest {
    /** A cell of strength 1 (square 1) under a base of 1: a rut of one tenth more each year, and one unit worn. */
    private static final String SLOW = "design sand 1;soft 1;life 9999;load 0 0 0 10 1;";

    public static void main(String[] args) {
        cells();
        layers();
        cores();
        nearest();
        strengths();
        loads();
        closedLanes();
        bases();
        years();
        failing();
        costs();
        refusals();
        statements();
        settings();
        tokens();
        everyByte();
        everyPrefix();
        syntax();
        outOfRange();
        repeated();
        tooMany();
        errorsAndLoads();
        changes();
        allCalls();
        Check.finish("EdgeTermsTest");
    }

    private static void is(String words) {
        Check.sentence(0, words);
    }

    private static String times(int number, String text) {
        StringBuilder all = new StringBuilder();
        for (int time = 0; time < number; time++) {
            all.append(text);
        }
        return all.toString();
    }

    private static void cells() {
        is("A road has 1 to 16 stations and 1 to 4 lanes, numbered from 0");
        Check.good("road 1 1;", 1);
        Check.good("road 16 1;", 16);
        Check.good("road 1 4;", 4);
        Check.good("road 16 4;", 64);
        Check.error("road 0 1;", RoadWear.OUT_OF_RANGE, 5);
        Check.error("road 17 1;", RoadWear.OUT_OF_RANGE, 5);
        Check.error("road 1 0;", RoadWear.OUT_OF_RANGE, 7);
        Check.error("road 1 5;", RoadWear.OUT_OF_RANGE, 7);
        RoadWear great = Check.road("road 16 4;");
        Check.due("the first station", great.cell(0, 0), 0);
        Check.due("the first lane", great.cell(0, 1), 0);
        Check.due("the last station", great.cell(63, 0), 15);
        Check.due("the last lane", great.cell(63, 1), 3);
        Check.throwing("cell 64", Check.INDEX, () -> great.cell(64, 0));
        Check.throwing("lane 4", Check.INDEX, () -> great.laneYears(4));
        is("its number is the lane times the number of stations, and the station");
        RoadWear road = Check.road("road 5 3;rut 4 0 44;rut 0 1 10;rut 4 2 42;");
        Check.due("the end of lane 0", road.cell(4, 2), 44);
        Check.due("the start of lane 1", road.cell(5, 2), 10);
        Check.due("its station", road.cell(5, 0), 0);
        Check.due("its lane", road.cell(5, 1), 1);
        Check.due("the last cell", road.cell(14, 2), 42);
        Check.throwing("cell 15", Check.INDEX, () -> road.cell(15, 2));
        is("A cell has a rut (0 to 9999 tenths of a millimetre)");
        Check.due("0", Check.road("road 1 1;rut 0 0 0;").cell(0, 2), 0);
        Check.due("9999", Check.road("road 1 1;rut 0 0 9999;").cell(0, 2), 9999);
        Check.error("road 1 1;rut 0 0 10000;", RoadWear.OUT_OF_RANGE, 17);
        Check.throwing("-1", Check.ARGUMENT, () -> road.measure(0, -1));
        Check.throwing("10000", Check.ARGUMENT, () -> road.measure(0, 10000));
        Check.due("0", road.measure(0, 0), 0);
        Check.due("9999", road.measure(0, 9999), 0);
        is("an overlay (0 to 300 mm)");
        RoadWear thick = Check.road("road 1 1;");
        Check.due("0", thick.cell(0, 3), 0);
        for (int time = 1; time <= 3; time++) {
            thick.patch(RoadWear.OVERLAY, 0, 100);
            Check.due("overlay", thick.cell(0, 3), 100 * time);
        }
        Check.due("not more than 300", thick.patch(RoadWear.OVERLAY, 0, 10), -3);
        Check.due("300", thick.cell(0, 3), 300);
    }

    private static void layers() {
        is("Layers are of the kinds 0 asphalt, 1 binder, 2 gravel, 3 sand, with the factors 44, 30, 14 and 8");
        RoadWear kinds = Check.road("road 4 1;core 0 0 asphalt 500;core 1 0 binder 500;core 2 0 gravel 500;"
                + "core 3 0 sand 500;");
        int[] strengths = {220, 150, 70, 40};
        for (int kind = 0; kind < 4; kind++) {
            Check.due("kind", kinds.layer(kind, 0, 0), kind);
            Check.due("strength", kinds.cell(kind, 5), strengths[kind]);
        }
        is("a row of layers has 1 to 4 of them, from above");
        Check.error("road 1 1;core 0 0;", RoadWear.SYNTAX, 17);
        Check.error("road 1 1;design;", RoadWear.SYNTAX, 15);
        Check.good("road 1 1;design sand 1;core 0 0 sand 1;", 1);
        RoadWear four = Check.road("road 1 1;core 0 0 gravel 1 binder 2 sand 3 asphalt 4;");
        int[] fromAbove = {2, 1, 3, 0};
        for (int layer = 0; layer < 4; layer++) {
            Check.due("kind", four.layer(0, layer, 0), fromAbove[layer]);
            Check.due("thickness", four.layer(0, layer, 1), layer + 1);
        }
        Check.throwing("a fifth one", Check.STATE, () -> four.addLayer(0, 0, 1));
        is("each with a thickness (1 to 500 mm)");
        Check.good("road 1 1;core 0 0 sand 1 sand 500;", 1);
        Check.good("road 1 1;design sand 1 sand 500;", 1);
        Check.error("road 1 1;core 0 0 sand 0;", RoadWear.OUT_OF_RANGE, 23);
        Check.error("road 1 1;core 0 0 sand 501;", RoadWear.OUT_OF_RANGE, 23);
        Check.error("road 1 1;design sand 0;", RoadWear.OUT_OF_RANGE, 21);
        Check.error("road 1 1;design sand 501;", RoadWear.OUT_OF_RANGE, 21);
        Check.error("road 1 1;design sand 1 sand 1 sand 1 sand 501;", RoadWear.OUT_OF_RANGE, 42);
        is("a kind may come several times");
        RoadWear same = Check.road("road 1 1;core 0 0 sand 100 sand 200 sand 300 sand 400;");
        Check.due("layers", same.cell(0, 6), 4);
        Check.due("strength", same.cell(0, 5), 80);
    }

    private static void cores() {
        is("a cell has at most one core, which has a row of layers; there are at most 12");
        RoadWear road = Check.road("road 16 4;core 3 2 sand 1;");
        Check.throwing("another one there", Check.STATE, () -> road.drill(2 * 16 + 3, 0, 1));
        Check.due("one in the same station", road.drill(3, 0, 1), 0);
        Check.due("one in the same lane", road.drill(2 * 16 + 4, 0, 1), 2);
        for (int cell = 4; cell < 13; cell++) {
            Check.due("drill", road.drill(cell, 0, 1), cell - 3);
        }
        Check.due("cores", road.count(3), 12);
        Check.throwing("a 13th one", Check.STATE, () -> road.drill(63, 0, 1));
        Check.due("cores", road.count(3), 12);
        is("Cores are numbered from 0 by the numbers of their cells");
        RoadWear mixed = Check.road("road 3 2;core 2 1 sand 5;core 0 1 sand 4;core 2 0 sand 3;core 0 0 sand 1;");
        int[] cells = {0, 2, 3, 5};
        for (int core = 0; core < 4; core++) {
            Check.due("cell", mixed.core(core, 0), cells[core]);
        }
        Check.throwing("core 4", Check.INDEX, () -> mixed.core(4, 0));
        Check.due("one between", mixed.drill(4, 0, 1), 3);
        Check.due("the last one is moved", mixed.core(4, 0), 5);
        is("The layers of a cell that is rebuilt are those of the DESIGN");
        Check.due("of its core", mixed.layer(0, 0, 1), 1);
        mixed.patch(RoadWear.REBUILD, 0, 0);
        Check.due("of the DESIGN", mixed.layer(0, 0, 1), 100);
        Check.due("of the core there still", mixed.layer(1, 0, 1), 1);
    }

    private static void nearest() {
        is("the difference of their stations and 3 times that of their lanes, both together");
        RoadWear road = Check.road("road 5 2;core 0 0 sand 100;core 4 1 sand 200;");
        int[] distances = {0, 1, 2, 3, 3, 3, 3, 2, 1, 0};
        int[] cores = {0, 0, 0, 0, 1, 0, 1, 1, 1, 1};
        for (int cell = 0; cell < 10; cell++) {
            Check.due("distance of " + cell, road.cell(cell, 8), distances[cell]);
            Check.due("core of " + cell, road.cell(cell, 7), cores[cell]);
        }
        RoadWear far = Check.road("road 16 4;core 15 3 sand 1;");
        Check.due("the greatest distance", far.cell(0, 8), 15 + 9);
        is("of several the core with the smallest number");
        RoadWear tie = Check.road("road 4 2;core 0 1 sand 3;core 3 0 sand 2;");
        // cell 0 lies 3 from either core: by its lane from core 1, by its station from core 0
        Check.due("core of cell 0", tie.cell(0, 7), 0);
        Check.due("core of cell 7", tie.cell(7, 7), 0);
        RoadWear row = Check.road("road 3 1;core 2 0 sand 2;core 0 0 sand 1;");
        Check.due("core of cell 1", row.cell(1, 7), 0);
        Check.due("layer of cell 1", row.layer(1, 0, 1), 1);
        is("without cores those of the DESIGN");
        RoadWear bare = Check.road("road 1 1;design binder 7;");
        Check.due("kind", bare.layer(0, 0, 0), 1);
        Check.due("thickness", bare.layer(0, 0, 1), 7);
        Check.due("drill", bare.drill(0, 3, 1), 0);
        Check.due("kind of the core", bare.layer(0, 0, 0), 3);
        Check.due("discard", bare.discard(0), 0);
        Check.due("kind of the DESIGN", bare.layer(0, 0, 0), 1);
    }

    private static void strength(String layers, int strength) {
        Check.due("strength of " + layers, Check.road("road 1 1;design " + layers + ";").cell(0, 5), strength);
    }

    private static void strengths() {
        is("all together divided by 100 and rounded down, but at least 1");
        strength("sand 1", 1);
        strength("sand 12", 1);
        strength("sand 24", 1);
        strength("sand 25", 2);
        strength("asphalt 1 binder 1 gravel 1 sand 1", 1);
        strength("asphalt 4 sand 2", 1);
        strength("asphalt 4 sand 3", 2);
        strength("binder 9 binder 9 binder 9 binder 9", 10);
        RoadWear road = Check.road("road 1 1;core 0 0 sand 12;");
        road.patch(RoadWear.OVERLAY, 0, 11);
        Check.due("96 and 484 are 580", road.cell(0, 5), 5);
        is("Its capacity is the square of its strength times LIFE");
        Check.due("the least one", Check.road("road 1 1;design sand 1;life 1;").capacity(0), 1L);
        RoadWear great = Check.road("road 1 1;design asphalt 500 asphalt 500 asphalt 500 asphalt 500;life 9999;");
        for (int time = 0; time < 3; time++) {
            great.patch(RoadWear.OVERLAY, 0, 100);
        }
        Check.due("the greatest strength", great.cell(0, 5), 1012);
        Check.due("the greatest one", great.capacity(0), 10240415856L);
    }

    private static void loads() {
        is("There are at most 10 loads, numbered from 0 in the order in which they came");
        RoadWear road = Check.road("road 2 2;" + "load 1 1 1 7 70;load 0 0 0 3 30;");
        Check.due("the first one", road.load(0, 3), 7);
        Check.due("the second one", road.load(1, 3), 3);
        for (int load = 2; load < 10; load++) {
            Check.due("addLoad", road.addLoad(0, 0, 0, load + 1, 0, 0), load);
        }
        Check.throwing("an 11th one", Check.STATE, () -> road.addLoad(0, 0, 0, 1, 0, 0));
        Check.due("the tenth one", road.load(9, 3), 10);
        Check.throwing("load 10", Check.INDEX, () -> road.load(10, 3));
        is("a lane, a first and a last station (both included)");
        RoadWear part = Check.road("road 5 1;load 0 1 3 10 7;load 0 0 0 10 100;load 0 4 4 10 1000;load 0 0 4 10 10000;");
        long[] bases = {10100, 10007, 10007, 10007, 11000};
        for (int cell = 0; cell < 5; cell++) {
            Check.due("base(" + cell + ")", part.base(cell), bases[cell]);
        }
        is("a weight (1 to 30 tonnes), a count (0 to 999999 in a year) and a growth (0 to 20 percent)");
        Check.good("road 1 1;load 0 0 0 1 0 grows 0;load 0 0 0 30 999999 grows 20;", 1);
        Check.error("road 1 1;load 0 0 0 0 0;", RoadWear.OUT_OF_RANGE, 20);
        Check.error("road 1 1;load 0 0 0 31 0;", RoadWear.OUT_OF_RANGE, 20);
        Check.error("road 1 1;load 0 0 0 1 1000000;", RoadWear.SYNTAX, 22);
        Check.error("road 1 1;load 0 0 0 1 0 grows 21;", RoadWear.OUT_OF_RANGE, 30);
    }

    private static void lanesNow(RoadWear road, int... lanes) {
        for (int load = 0; load < lanes.length; load++) {
            Check.due("the lane of load " + load + " now", road.load(load, 6), lanes[load]);
        }
    }

    private static void closedLanes() {
        is("its loads are then on the nearest lane that is not closed, the one with the smaller number on a tie");
        RoadWear road = Check.road("road 1 4;load 0 0 0 10 1;load 1 0 0 10 10;load 2 0 0 10 100;load 3 0 0 10 1000;");
        road.close(1, true);
        lanesNow(road, 0, 0, 2, 3);
        road.close(0, true);
        lanesNow(road, 2, 2, 2, 3);
        road.close(2, true);
        lanesNow(road, 3, 3, 3, 3);
        road.close(0, false);
        lanesNow(road, 0, 0, 3, 3);
        road.close(1, false);
        lanesNow(road, 0, 1, 1, 3);
        road.close(3, true);
        lanesNow(road, 0, 1, 1, 1);
        Check.due("base of lane 1", road.base(1), 1110L);
        Check.due("base of lane 3", road.base(3), 0L);
        is("on none if all are closed (their counts grow all the same)");
        RoadWear closed = Check.road("road 1 2;load 0 0 0 10 100 grows 20;load 1 0 0 10 100;");
        closed.close(0, true);
        closed.close(1, true);
        lanesNow(closed, RoadWear.NONE, RoadWear.NONE);
        Check.due("base", closed.base(0) + closed.base(1), 0L);
        Check.due("countIn", closed.countIn(0, 1), 120);
        closed.pass(1);
        Check.due("count", closed.load(0, 4), 120);
        Check.due("worn", closed.worn(0) + closed.worn(1), 0L);
    }

    private static void bases() {
        is("of the count times the fourth power of the weight, divided by 10000, each quotient rounded down");
        RoadWear road = Check.road("road 3 1;load 0 0 0 1 9999;load 0 0 0 1 9999;load 0 1 1 1 10000;load 0 2 2 3 123;"
                + "load 0 2 2 3 124;");
        long[] bases = {0, 1, 1};
        for (int cell = 0; cell < 3; cell++) {
            Check.due("base(" + cell + ")", road.base(cell), bases[cell]);
        }
        RoadWear full = Check.road("road 1 1;" + times(10, "load 0 0 0 30 999999;"));
        Check.due("the greatest base", full.base(0), 809999190L);
        is("times (1000 plus its rut as it is ahead of the year), divided by 1000, rounded down");
        full.measure(0, 9999);
        Check.due("the most units", full.units(0), 8909181090L);
        RoadWear one = Check.road("road 1 1;load 0 0 0 10 1;");
        int[] ruts = {0, 999, 1000, 1999, 2000, 9000, 9999};
        long[] units = {1, 1, 2, 2, 3, 10, 10};
        for (int index = 0; index < ruts.length; index++) {
            one.measure(0, ruts[index]);
            Check.due("units with a rut of " + ruts[index], one.units(0), units[index]);
        }
        RoadWear deeper = Check.road("road 1 1;" + SLOW + "rut 0 0 999;");
        deeper.pass(1);
        Check.due("its rut was 999 ahead of the year", deeper.worn(0), 1L);
        deeper.pass(1);
        Check.due("its rut was 1000 ahead of the year", deeper.worn(0), 3L);
    }

    private static void years() {
        is("its rut grows by its units times SOFT divided by the square of its strength, rounded down");
        // strength 2: 3 units of 4 are no tenth, 4 are one; with SOFT 2 two units are one, too
        RoadWear road = Check.road("road 1 1;design sand 25;soft 1;life 9999;load 0 0 0 10 3;");
        Check.due("3 / 4", road.rutIn(0, 1), 0);
        Check.due("3 / 4 each year", road.rutIn(0, 60), 0);
        road.setCount(0, 4);
        Check.due("4 / 4", road.rutIn(0, 1), 1);
        road.setCount(0, 7);
        Check.due("7 / 4", road.rutIn(0, 1), 1);
        road.set(0, 2);
        Check.due("14 / 4", road.rutIn(0, 1), 3);
        road.setCount(0, 2);
        Check.due("4 / 4", road.rutIn(0, 1), 1);
        // 809999190 * 3000 / 1000 units are more than 31 bits hold; the square of the strength 880 is 774400
        RoadWear great = Check.road("road 1 1;design asphalt 500 asphalt 500 asphalt 500 asphalt 500;soft 1;rut 0 0 2000;"
                + times(10, "load 0 0 0 30 999999;"));
        Check.due("2000 and 3137", great.rutIn(0, 1), 5137);
        Check.due("more than 31 bits hold", great.wornIn(0, 1), 2429997570L);
        is("but not above 9999; it has worn its units more");
        RoadWear deep = Check.road("road 1 1;" + SLOW + "rut 0 0 9987;limit 999;");
        // 1 * (1000 + 9987) / 1000 are 10 units and tenths
        deep.pass(1);
        Check.due("9997", deep.cell(0, 2), 9997);
        Check.due("worn", deep.worn(0), 10L);
        deep.pass(1);
        Check.due("9999", deep.cell(0, 2), 9999);
        Check.due("worn", deep.worn(0), 20L);
        deep.pass(1);
        Check.due("9999 still", deep.cell(0, 2), 9999);
        Check.due("worn", deep.worn(0), 30L);
        is("Then each count grows by itself times its growth divided by 100, rounded down, but not above 999999");
        int[][] grown = {{0, 20, 0}, {4, 20, 4}, {5, 20, 6}, {99, 1, 99}, {100, 1, 101}, {833332, 20, 999998},
                {833333, 20, 999999}, {833334, 20, 999999}, {999999, 20, 999999}, {999999, 0, 999999}, {7, 0, 7}};
        for (int[] counts : grown) {
            RoadWear one = Check.road("road 1 1;load 0 0 0 1 " + counts[0] + " grows " + counts[1] + ";");
            one.pass(1);
            Check.due(counts[0] + " grows " + counts[1], one.load(0, 4), counts[2]);
        }
        RoadWear then = Check.road("road 1 1;load 0 0 0 10 100 grows 20;");
        then.pass(1);
        Check.due("worn by the count ahead of the year", then.worn(0), 100L);
        is("The year becomes 1 greater (0 at first, at most 500)");
        RoadWear old = Check.road("road 1 1;");
        Check.due("at first", old.count(5), 0);
        for (int time = 0; time < 9; time++) {
            old.pass(55);
        }
        Check.throwing("501", Check.STATE, () -> old.pass(6));
        Check.due("pass", old.pass(4), 0);
        Check.due("pass", old.pass(1), 0);
        Check.due("the last one", old.count(5), 500);
        Check.throwing("501", Check.STATE, () -> old.pass(1));
        Check.due("500 still", old.count(5), 500);
    }

    private static void failing() {
        is("A cell fails if its rut is LIMIT or more, or it has worn its capacity or more");
        RoadWear road = Check.road("road 3 1;limit 10;rut 0 0 9;rut 1 0 10;rut 2 0 11;");
        Check.due("9", road.failsBy(0), 0);
        Check.due("10", road.failsBy(1), 1);
        Check.due("11", road.failsBy(2), 1);
        RoadWear worn = Check.road("road 1 1;" + SLOW + "limit 999;");
        worn.pass(5);
        worn.set(2, 6);
        Check.due("5 of 6", worn.failsBy(0), 0);
        worn.set(2, 5);
        Check.due("5 of 5", worn.failsBy(0), 2);
        worn.set(2, 4);
        Check.due("5 of 4", worn.failsBy(0), 2);
        is("how many years must pass until it fails, 0 if it does now; NONE if it does not within 60 years");
        RoadWear slow = Check.road("road 1 1;" + SLOW + "limit 62;");
        int[][] years = {{0, RoadWear.NONE}, {1, RoadWear.NONE}, {2, 60}, {3, 59}, {61, 1}, {62, 0}, {63, 0}};
        for (int[] rut : years) {
            slow.measure(0, rut[0]);
            Check.due("yearsLeft with a rut of " + rut[0], slow.yearsLeft(0), rut[1]);
        }
        is("Nothing but years is thought to pass for this, also beyond the year 500");
        RoadWear late = Check.road("road 1 1;" + SLOW + "limit 550;");
        for (int time = 0; time < 10; time++) {
            late.pass(50);
        }
        Check.due("in the year 550", late.yearsLeft(0), 50);
        Check.due("rutIn", late.rutIn(0, 60), 560);
        Check.due("wornIn", late.wornIn(0, 60), 560L);
        late.set(1, 561);
        Check.due("not within 60 years", late.yearsLeft(0), RoadWear.NONE);
    }

    private static void costs() {
        is("It costs FILL for each 10 tenths of the rut that are begun (0 for a rut of 0)");
        RoadWear road = Check.road("road 1 1;fill 999;over 999;build 9999;money 999999;");
        int[][] fills = {{0, 0}, {1, 999}, {9, 999}, {10, 999}, {11, 1998}, {20, 1998}, {21, 2997}, {9990, 998001},
                {9991, 999000}, {9999, 999000}};
        for (int[] fill : fills) {
            road.measure(0, fill[0]);
            Check.due("a fill of " + fill[0], road.cost(RoadWear.FILL, 0, 0), fill[1]);
        }
        Check.due("the dearest fill is paid", road.patch(RoadWear.FILL, 0, 0), 999000);
        Check.due("the money that is left", road.count(6), 999);
        is("the overlay grows by so many mm (10 to 100), and the rut becomes 0");
        Check.throwing("9", Check.ARGUMENT, () -> road.patch(RoadWear.OVERLAY, 0, 9));
        Check.throwing("101", Check.ARGUMENT, () -> road.patch(RoadWear.OVERLAY, 0, 101));
        road.measure(0, 77);
        Check.due("10", road.patch(RoadWear.OVERLAY, 0, 10), 999);
        Check.due("overlay", road.cell(0, 3), 10);
        Check.due("rut", road.cell(0, 2), 0);
        road.give(999999);
        Check.due("100", road.patch(RoadWear.OVERLAY, 0, 100), 9990);
        Check.due("overlay", road.cell(0, 3), 110);
        is("It costs OVER for each 10 mm that are begun");
        int[][] overlays = {{10, 1}, {11, 2}, {19, 2}, {20, 2}, {21, 3}, {90, 9}, {91, 10}, {99, 10}, {100, 10}};
        for (int[] overlay : overlays) {
            Check.due("an overlay of " + overlay[0], road.cost(RoadWear.OVERLAY, 0, overlay[0]), 999 * overlay[1]);
        }
        is("the cell is rebuilt; its overlay, its rut and what it has worn become 0. It costs BUILD");
        road.addLoad(0, 0, 0, 30, 999999, 0);
        road.pass(1);
        Check.due("a rut", road.cell(0, 2), 9999);
        Check.due("a rebuild", road.patch(RoadWear.REBUILD, 0, 0), 9999);
        Check.due("rebuilt", road.cell(0, 4), 1);
        Check.due("overlay", road.cell(0, 3), 0);
        Check.due("rut", road.cell(0, 2), 0);
        Check.due("worn", road.worn(0), 0L);
        Check.due("a fill leaves what is worn", wornBehindFill(), 7L);
    }

    private static long wornBehindFill() {
        RoadWear road = Check.road("road 1 1;" + SLOW);
        road.pass(7);
        road.patch(RoadWear.FILL, 0, 0);
        return road.worn(0);
    }

    private static void refusals() {
        is("A patch is refused for the first of these reasons: 1 there is not enough money");
        RoadWear road = Check.road("road 1 1;fill 2;over 3;build 7;money 6;rut 0 0 30;");
        Check.due("a fill of 6", road.whyNot(RoadWear.FILL, 0, 0), 0);
        Check.due("an overlay of 6", road.whyNot(RoadWear.OVERLAY, 0, 20), 0);
        Check.due("an overlay of 9", road.whyNot(RoadWear.OVERLAY, 0, 21), 1);
        Check.due("a rebuild of 7", road.whyNot(RoadWear.REBUILD, 0, 0), 1);
        Check.due("a rebuild of 7", road.patch(RoadWear.REBUILD, 0, 0), -1);
        Check.due("a fill of 6", road.patch(RoadWear.FILL, 0, 0), 6);
        Check.due("all money is spent", road.count(6), 0);
        Check.due("the first reason of 1 and 3", overlaidRoad().whyNot(RoadWear.OVERLAY, 0, 11), 1);
        RoadWear asNew = Check.road("road 1 1;build 5;money 9;");
        Check.due("the first one", asNew.patch(RoadWear.REBUILD, 0, 0), 5);
        Check.due("the first reason of 1 and 4", asNew.patch(RoadWear.REBUILD, 0, 0), -1);
        asNew.give(1);
        Check.due("with the money", asNew.patch(RoadWear.REBUILD, 0, 0), -4);
        is("2 a fill of a rut of 0");
        Check.due("a rut of 0", road.whyNot(RoadWear.FILL, 0, 0), 2);
        road.measure(0, 1);
        Check.due("no money for a rut of 1", road.whyNot(RoadWear.FILL, 0, 0), 1);
        is("3 an overlay that would be greater than 300 then");
        RoadWear thick = overlaidRoad();
        thick.set(4, 0);
        Check.due("301", thick.whyNot(RoadWear.OVERLAY, 0, 11), 3);
        Check.due("300", thick.whyNot(RoadWear.OVERLAY, 0, 10), 0);
        Check.due("300", thick.patch(RoadWear.OVERLAY, 0, 10), 0);
        Check.due("310", thick.whyNot(RoadWear.OVERLAY, 0, 10), 3);
        is("4 a rebuild of a cell that is rebuilt and has no overlay, no rut and nothing worn");
        RoadWear built = Check.road("road 1 1;" + SLOW + "build 0;over 0;money 0;");
        Check.due("not rebuilt", built.patch(RoadWear.REBUILD, 0, 0), 0);
        Check.due("rebuilt", built.patch(RoadWear.REBUILD, 0, 0), -4);
        built.measure(0, 1);
        Check.due("with a rut", built.patch(RoadWear.REBUILD, 0, 0), 0);
        built.patch(RoadWear.OVERLAY, 0, 10);
        Check.due("with an overlay", built.patch(RoadWear.REBUILD, 0, 0), 0);
        built.pass(1);
        built.measure(0, 0);
        Check.due("with something worn", built.patch(RoadWear.REBUILD, 0, 0), 0);
        Check.due("with nothing of it", built.patch(RoadWear.REBUILD, 0, 0), -4);
    }

    /** With an overlay of 290 mm, and no money. */
    private static RoadWear overlaidRoad() {
        RoadWear road = Check.road("road 1 1;over 1;money 29;");
        road.patch(RoadWear.OVERLAY, 0, 100);
        road.patch(RoadWear.OVERLAY, 0, 100);
        road.patch(RoadWear.OVERLAY, 0, 90);
        return road;
    }

    private static void statements() {
        is("The input buffer holds at most 700 bytes");
        RoadWear full = new RoadWear();
        Check.append(full, times(699, " ") + ";");
        Check.due("700", full.truncateInput(700), true);
        Check.due("one more", full.appendInput(0, 0, 0, 0, 0), -1);
        Check.due("loadRoad", full.loadRoad(), -1);
        Check.due("the last byte is read", full.errorOffset(), 699);
        Check.good("road 1 1;" + times(691, " "), 1);
        Check.good(times(691, "\n") + "road 1 1;", 1);
        is("The text is a sequence of statements, each followed by a semicolon");
        Check.error("road 1 1", RoadWear.SYNTAX, 8);
        Check.error("road 1 1;soft 5", RoadWear.SYNTAX, 15);
        Check.error("road 1 1 soft 5;", RoadWear.SYNTAX, 9);
        Check.error("road 1 1;;", RoadWear.SYNTAX, 9);
        Check.error("road 1 1;soft 5;;", RoadWear.SYNTAX, 16);
        is("stations and lanes; the first statement, and only there");
        Check.error("soft 5;road 1 1;", RoadWear.SYNTAX, 0);
        Check.error("soft 5;", RoadWear.SYNTAX, 0);
        Check.error(";road 1 1;", RoadWear.SYNTAX, 0);
        Check.error("road 1 1;road 1 1;", RoadWear.SYNTAX, 9);
        Check.error("road 1 1;soft 5;road 1 1;", RoadWear.SYNTAX, 16);
        is("the DESIGN, 1 to 4 layers (asphalt 100, gravel 200 without it)");
        Check.due("without it", Check.road("road 1 1;").cell(0, 6), 2);
        RoadWear usual = Check.road("road 1 1;");
        Check.due("asphalt", usual.layer(0, 0, 0) * 1000 + usual.layer(0, 0, 1), 100);
        Check.due("gravel", usual.layer(0, 1, 0) * 1000 + usual.layer(0, 1, 1), 2200);
        Check.due("one layer", Check.road("road 1 1;design sand 1;").cell(0, 6), 1);
        Check.due("four", Check.road("road 1 1;design sand 1 sand 1 sand 1 sand 1;").cell(0, 6), 4);
        is("its lane, its first and its last station (not less than the first one)");
        Check.good("road 3 2;load 1 2 2 1 1;", 6);
        Check.good("road 3 2;load 1 0 2 1 1;", 6);
        Check.error("road 3 2;load 1 2 1 1 1;", RoadWear.OUT_OF_RANGE, 18);
        Check.error("road 3 2;load 1 1 0 1 1;", RoadWear.OUT_OF_RANGE, 18);
        is("its weight, its count, its growth (0 without it)");
        Check.due("without it", Check.road("road 1 1;load 0 0 0 1 1;").load(0, 5), 0);
        Check.due("told", Check.road("road 1 1;load 0 0 0 1 1 grows 20;").load(0, 5), 20);
        Check.due("not told behind one that is",
                Check.road("road 1 1;load 0 0 0 1 1 grows 20;load 0 0 0 1 1;").load(1, 5), 0);
        is("station, lane, tenths; of several for one cell the last one counts");
        RoadWear ruts = Check.road("road 3 2;rut 2 1 5;rut 2 0 6;rut 2 1 7;rut 2 0 0;");
        Check.due("of station 2 and lane 1", ruts.cell(5, 2), 7);
        Check.due("of station 2 and lane 0", ruts.cell(2, 2), 0);
    }

    private static void settings() {
        is("SOFT 1 to 999 (10 without it), LIMIT 10 to 999 (150), LIFE 1 to 9999 (100), the money 0 to 999999 (1000), "
                + "FILL 0 to 999 (1), OVER 0 to 999 (5), BUILD 0 to 9999 (100)");
        String[] words = {"soft", "limit", "life", "fill", "over", "build", "money"};
        int[][] ranges = {{1, 999, 10}, {10, 999, 150}, {1, 9999, 100}, {0, 999, 1}, {0, 999, 5}, {0, 9999, 100},
                {0, 999999, 1000}};
        for (int index = 0; index < words.length; index++) {
            String start = "road 1 1;" + words[index] + " ";
            int[] range = ranges[index];
            Check.due("without " + words[index], amount(Check.road("road 1 1;"), index), range[2]);
            for (int end = 0; end < 2; end++) {
                Check.due(start + range[end], amount(Check.road(start + range[end] + ";"), index), range[end]);
            }
            if (range[0] > 0) {
                Check.error(start + (range[0] - 1) + ";", RoadWear.OUT_OF_RANGE, start.length());
            }
            int code = range[1] == 999999 ? RoadWear.SYNTAX : RoadWear.OUT_OF_RANGE;
            Check.error(start + (range[1] + 1) + ";", code, start.length());
        }
    }

    private static int amount(RoadWear road, int index) {
        return index < 6 ? road.setting(index) : road.count(6);
    }

    private static void tokens() {
        is("words (maximal runs of the letters a to z), numbers (maximal runs of digits, 1 to 6 of them) and semicolons");
        Check.good("road1 1;soft1;", 1);
        Check.good("road 1 1;soft 000001;life 009999;", 1);
        Check.error("road 1 1;soft 0000001;", RoadWear.SYNTAX, 14);
        Check.error("road 1 1;soft 99999999999999999999;", RoadWear.SYNTAX, 14);
        Check.error("road 1 1;softsoft 1;", RoadWear.SYNTAX, 9);
        Check.error("road 1 1;sof t 1;", RoadWear.SYNTAX, 9);
        Check.error("road 11;", RoadWear.SYNTAX, 7);
        Check.error("road 1 1;core 0 0 sand1sand1sand1sand1sand1;", RoadWear.SYNTAX, 38);
        Check.good("road 1 1;core0 0sand1sand1sand1sand1;load0 0 0 1 1grows1;", 1);
        is("Spaces (32) and line feeds (10) may stand between tokens");
        Check.good("\n \nroad\n\n1 \n1\n;\n soft \n 5 ; \n", 1);
        Check.good("road 1 1;soft 5;", 1);
        Check.error("road 1 1;so ft 5;", RoadWear.SYNTAX, 9);
        Check.error("road 1 1;soft 1 0;", RoadWear.SYNTAX, 16);
        is("the first error met is reported, with an offset in bytes from 0");
        Check.error("!road 1 1;", RoadWear.SYNTAX, 0);
        Check.error("road 1 1;soft 0;core 0 0 sand 0;?", RoadWear.OUT_OF_RANGE, 14);
        Check.error("road 1 1;soft 5;soft 0;", RoadWear.REPEATED, 16);
        Check.error("road 1 1;core 0 0 sand 1;core 0 0 stone;", RoadWear.REPEATED, 32);
        is("if several errors apply to one token, the one with the smallest code");
        // too long and out of range; repeated, and at a place where a semicolon is due; too many there
        Check.error("road 1 1;soft 1234567;", RoadWear.SYNTAX, 14);
        Check.error("road 1 1;core 0 0 sand 1;core 0 0000001 sand 1;", RoadWear.SYNTAX, 32);
        Check.error("road 1 1;soft 5 soft 5;", RoadWear.SYNTAX, 16);
        Check.error("road 1 1;design sand 1 design sand 1;", RoadWear.SYNTAX, 23);
        String ten = "road 1 1;" + times(10, "load 0 0 0 1 1;");
        Check.error(ten.substring(0, ten.length() - 1) + " load 0 0 0 1 1;", RoadWear.SYNTAX, ten.length());
    }

    /** Each byte at the start of a statement, within a word, within a number, and ahead of a text. */
    private static void everyByte() {
        is("a byte that belongs to no token");
        for (int sign = 0; sign < 256; sign++) {
            char one = (char) sign;
            boolean blank = sign == 32 || sign == 10;
            boolean letter = sign >= 'a' && sign <= 'z';
            boolean digit = sign >= '0' && sign <= '9';
            if (blank) {
                Check.good("road 1 1;" + one, 1);
                Check.good(one + "road 1 1;", 1);
                Check.good("road" + one + "1 1;", 1);
            } else {
                Check.error("road 1 1;" + one, RoadWear.SYNTAX, 9);
                Check.error(one + "road 1 1;", RoadWear.SYNTAX, 0);
                if (!digit) {
                    Check.error("road" + one + "1 1;", RoadWear.SYNTAX, letter ? 0 : 4);
                }
            }
            if (digit) {
                Check.good("road 1 1;limit 1" + one + ";", 1);
                Check.error("road 1 1;limit 11" + one + "1;", RoadWear.OUT_OF_RANGE, 15);
            } else {
                Check.error("road 1 1;limit 11" + one + "1;", RoadWear.SYNTAX, blank || one == ';' ? 18 : 17);
            }
        }
    }

    /** A text that ends behind one of its tokens is good behind a semicolon alone. */
    private static void everyPrefix() {
        is("or the end of the text where more is required");
        String text = "road 2 2 ; core 0 1 sand 5 gravel 6 ; design binder 7 sand 8 ; load 1 0 1 5 6 grows 7 ; "
                + "load 0 1 1 30 0 ; rut 1 1 9 ; soft 1 ; limit 10 ; life 1 ; money 0 ; fill 0 ; over 0 ; build 0 ;";
        List<String> tokens = new ArrayList<>(Arrays.asList(text.split(" ")));
        StringBuilder start = new StringBuilder();
        Check.error("", RoadWear.SYNTAX, 0);
        for (String token : tokens) {
            start.append(token);
            for (String end : new String[] {"", " ", "\n\n"}) {
                if (token.equals(";")) {
                    Check.good(start + end, 4);
                } else {
                    Check.error(start + end, RoadWear.SYNTAX, start.length() + end.length());
                }
            }
            start.append(' ');
        }
    }

    private static void syntax() {
        is("a token that cannot stand at its place (also a fifth KIND, and the end of an empty text)");
        Check.error("", RoadWear.SYNTAX, 0);
        Check.error("   ", RoadWear.SYNTAX, 3);
        Check.error("road 1 1;core 0 0 sand 1 sand 1 sand 1 sand 1 sand", RoadWear.SYNTAX, 46);
        Check.error("road 1 1;design sand 1 sand 1 sand 1 sand 1 asphalt 1;", RoadWear.SYNTAX, 44);
        Check.error("road 1 1;core 0 0 1;", RoadWear.SYNTAX, 18);
        Check.error("road 1 1;core 0 0 sand 1 5;", RoadWear.SYNTAX, 25);
        Check.error("road;", RoadWear.SYNTAX, 4);
        Check.error("road road", RoadWear.SYNTAX, 5);
        Check.error("road 1 1;soft soft;", RoadWear.SYNTAX, 14);
        Check.error("road 1 1;grows;", RoadWear.SYNTAX, 9);
        Check.error("road 1 1;sand 1;", RoadWear.SYNTAX, 9);
        Check.error("road 1 1;1;", RoadWear.SYNTAX, 9);
        Check.error("road 1 1;rut 0 0 1 grows 1;", RoadWear.SYNTAX, 19);
        Check.error("road 1 1;load 0 0 0 1 grows 1;", RoadWear.SYNTAX, 22);
        Check.error("road 1 1;load 0 0 0 1 1 grows grows 1;", RoadWear.SYNTAX, 30);
        Check.error("road 1 1;load 0 0 0 1 1 grows 1 1;", RoadWear.SYNTAX, 32);
        is("a number that is too long");
        Check.error("road 0000001 1;", RoadWear.SYNTAX, 5);
        Check.error("road 1 0000001;", RoadWear.SYNTAX, 7);
        Check.error("road 1 1;money 1000000;", RoadWear.SYNTAX, 15);
        Check.error("road 1 1;money 0999999 ;0000001", RoadWear.SYNTAX, 15);
        Check.error("0000001", RoadWear.SYNTAX, 0);
        is("The offset is that of the first byte of the token, or the length of the text");
        Check.error("road 1 1;\n\n  softly 5;", RoadWear.SYNTAX, 13);
        Check.error("road 1 1;soft   12345678;", RoadWear.SYNTAX, 16);
        Check.error("road 1 1;soft  \n", RoadWear.SYNTAX, 16);
        Check.error("road 1 1;limit " + times(685, " "), RoadWear.SYNTAX, 700);
    }

    private static void outOfRange() {
        is("a number that is out of its range; a station or lane that there is not");
        Check.good("road 3 2;core 2 1 sand 1;rut 2 1 1;load 1 2 2 1 1;", 6);
        Check.error("road 3 2;core 3 0 sand 1;", RoadWear.OUT_OF_RANGE, 14);
        Check.error("road 3 2;core 0 2 sand 1;", RoadWear.OUT_OF_RANGE, 16);
        Check.error("road 3 2;rut 3 0 1;", RoadWear.OUT_OF_RANGE, 13);
        Check.error("road 3 2;rut 0 2 1;", RoadWear.OUT_OF_RANGE, 15);
        Check.error("road 3 2;load 2 0 0 1 1;", RoadWear.OUT_OF_RANGE, 14);
        Check.error("road 3 2;load 0 3 3 1 1;", RoadWear.OUT_OF_RANGE, 16);
        Check.error("road 3 2;load 0 0 3 1 1;", RoadWear.OUT_OF_RANGE, 18);
        Check.error("road 16 4;core 16 0 sand 1;", RoadWear.OUT_OF_RANGE, 15);
        Check.error("road 16 4;core 0 4 sand 1;", RoadWear.OUT_OF_RANGE, 17);
        Check.error("road 1 1;core 0 1 sand 1;", RoadWear.OUT_OF_RANGE, 16);
        Check.error("road 1 1;core 999999 0 sand 1;", RoadWear.OUT_OF_RANGE, 14);
    }

    private static void repeated() {
        is("the lane of a core at whose cell there is one");
        Check.error("road 3 2;core 1 1 sand 1;core 1   1 sand 1;", RoadWear.REPEATED, 34);
        Check.error("road 3 2;core 0 0 sand 1;core 2 1 sand 1;core 2 1 sand 1;", RoadWear.REPEATED, 48);
        Check.good("road 3 2;core 1 1 sand 1;core 1 0 sand 1;core 0 1 sand 1;", 6);
        // lane 1 of 4 stations and station 1 of lane 1 of 3 stations: 3 * 1 + 1 is not 4 * 1 + 0
        Check.good("road 4 2;core 0 1 sand 1;core 1 0 sand 1;core 3 0 sand 1;", 8);
        is("the first word of a second statement of one kind other than core, load and rut (a second \"road\" is SYNTAX)");
        for (String word : new String[] {"soft", "limit", "life", "money", "fill", "over", "build", "design"}) {
            String one = word.equals("design") ? "design sand 10;" : word + " 10;";
            for (String between : new String[] {"", "core 0 0 sand 1;", "rut 0 0 1;rut 0 0 1;load 0 0 0 1 1;"}) {
                String start = "road 3 2;" + one + between;
                Check.error(start + one, RoadWear.REPEATED, start.length());
                Check.error(start + word, RoadWear.REPEATED, start.length());
                Check.error(start + word + " 0000000;", RoadWear.REPEATED, start.length());
            }
        }
        Check.good("road 3 2;core 0 0 sand 1;core 1 0 sand 1;load 0 0 0 1 1;load 0 0 0 1 1;rut 0 0 1;rut 0 0 1;", 6);
        Check.good("road 3 2;soft 10;limit 10;life 10;money 10;fill 10;over 10;build 10;design sand 1;", 6);
        Check.error("road 3 2;road 3 2;", RoadWear.SYNTAX, 9);
        RoadWear twice = new RoadWear();
        String told = "road 3 2;soft 10;limit 10;life 10;money 10;fill 10;over 10;build 10;design sand 1;core 0 0 sand 1;";
        for (int time = 0; time < 3; time++) {
            Check.due("another text may tell all again", Check.load(twice, told), 6);
            Check.due("an error", Check.load(twice, told + "core 0 0 sand 1;"), -1);
            Check.due("REPEATED", twice.errorCode(), RoadWear.REPEATED);
        }
    }

    private static void tooMany() {
        is("the first word of a 13th core or of an 11th load");
        StringBuilder cores = new StringBuilder("road 16 4;");
        for (int core = 0; core < 12; core++) {
            cores.append("core ").append(15 - core).append(" 3 sand 1;");
        }
        String loads = "road 1 1;" + times(10, "load 0 0 0 1 1;");
        Check.good(cores.toString(), 64);
        Check.error(cores + "core", RoadWear.TOO_MANY, cores.length());
        Check.error(cores + "  core 99 99 stone 0;", RoadWear.TOO_MANY, cores.length() + 2);
        Check.good(cores + "load 0 0 0 1 1;", 64);
        Check.good(loads, 1);
        Check.error(loads + "load", RoadWear.TOO_MANY, loads.length());
        Check.error(loads + "\nload 99 99 99 99 99;", RoadWear.TOO_MANY, loads.length() + 1);
        Check.good(loads + "core 0 0 sand 1;", 1);
        RoadWear twice = new RoadWear();
        for (int time = 0; time < 2; time++) {
            Check.due("another text may have 12 cores again", Check.load(twice, cores.toString()), 64);
            Check.due("another text may have 10 loads again", Check.load(twice, loads), 1);
            Check.due("an error", Check.load(twice, loads + "load"), -1);
        }
    }

    private static void errorsAndLoads() {
        is("An error changes nothing but the input buffer and the reported error");
        String[] errors = {"", "road 2 2;rut 0 0 5;soft", "road 4 4;money 5;build 0;design sand 1;soft 0;",
            "road 2 2;core 1 1 sand 1;core 1 1 sand 1;", "road 1 1;" + times(11, "load 0 0 0 1 1;")};
        for (String error : errors) {
            RoadWear road = States.busy();
            Check.due("loadRoad of " + error, loadAlone(road, error), -1);
            Check.due("an error was reported", road.errorCode() != RoadWear.NO_ERROR, true);
            Check.due("the input buffer is empty", road.truncateInput(1), false);
            Check.due("the state behind " + error, States.told(road), States.told(States.busy()));
        }
        is("A successful load replaces everything but the output");
        RoadWear loaded = States.busy();
        RoadWear fresh = new RoadWear();
        Check.due("loadRoad", loadAlone(loaded, "road 2 2;rut 0 0 5;"), 4);
        Check.due("loadRoad", loadAlone(fresh, "road 2 2;rut 0 0 5;"), 4);
        Check.due("errorCode", loaded.errorCode(), RoadWear.NO_ERROR);
        Check.due("the output", Check.output(loaded), Check.output(States.busy()));
        Check.due("the state", States.told(loaded), States.told(fresh));
        is("the year is 0, no cell is rebuilt or has an overlay, nothing has worn, no lane is closed, nothing was paid, "
                + "nothing can be undone, and no state is saved");
        RoadWear again = States.busy();
        Check.due("loadRoad", loadAlone(again, "road 2 2;"), 4);
        int[] counts = {2, 2, 4, 0, 0, 0, 1000, 0, 0, 0, 0, 0, 0, 0};
        for (int what = 0; what < counts.length; what++) {
            Check.due("count(" + what + ")", again.count(what), counts[what]);
        }
        for (int cell = 0; cell < 4; cell++) {
            Check.due("overlay", again.cell(cell, 3), 0);
            Check.due("worn", again.worn(cell), 0L);
        }
        Check.throwing("undo", Check.STATE, again::undo);
        Check.throwing("restoreState", Check.STATE, again::restoreState);
    }

    private static int loadAlone(RoadWear road, String text) {
        road.truncateInput(0);
        return Check.load(road, text);
    }

    private static void changes() {
        is("Changes are the methods whose description says so");
        RoadWear others = Check.road("road 2 1;core 0 0 sand 1;load 0 0 1 1 1;");
        Check.append(others, "road 1 1");
        others.truncateInput(2);
        others.loadRoad();
        others.printCell(0);
        others.printLane(0);
        others.printLoads();
        others.saveState();
        others.cheapest(0, 60);
        others.safestClosing();
        Check.due("these are none", others.count(13), 0);
        others.give(1);
        others.saveState();
        Check.due("neither is a saved state", others.undo(), 0);
        Check.due("it is not undone", others.restoreState(), 0);
        Check.due("it was saved behind the change", others.count(6), 1001);
        is("if they succeed, also if nothing is different then");
        RoadWear same = Check.road("road 2 1;load 0 0 0 1 5;rut 0 0 7;");
        same.measure(0, 7);
        same.setCount(0, 5);
        same.close(0, false);
        same.set(0, 10);
        Check.due("changes that change nothing", same.count(13), 4);
        RoadWear rich = Check.road("road 1 1;money 999999;fill 0;");
        rich.give(1);
        Check.due("money that is lost", rich.count(13), 1);
        rich.pass(1);
        Check.due("a year without loads", rich.count(13), 2);
        is("At most 8 changes are kept to be undone: a further one puts the oldest of them away for good");
        RoadWear road = Check.road("road 1 1;money 0;");
        for (int time = 1; time <= 8; time++) {
            road.give(1);
            Check.due("changes", road.count(13), time);
        }
        road.give(1);
        Check.due("a ninth one", road.count(13), 8);
        for (int left = 7; left >= 0; left--) {
            Check.due("undo", road.undo(), left);
        }
        Check.due("the first one stays", road.count(6), 1);
        Check.throwing("it can't be undone", Check.STATE, road::undo);
        is("one that was undone is kept no more");
        RoadWear undone = Check.road("road 1 1;money 0;");
        for (int time = 0; time < 8; time++) {
            undone.give(1);
        }
        undone.undo();
        undone.undo();
        undone.give(100);
        Check.due("changes", undone.count(13), 7);
        Check.due("undo", undone.undo(), 6);
        Check.due("money", undone.count(6), 6);
        Check.due("undo", undone.undo(), 5);
        Check.due("money", undone.count(6), 5);
    }

    private static void allCalls() {
        is("An object is used for at most 512 calls after it has been made");
        RoadWear road = new RoadWear();
        for (int call = 1; call <= 502; call++) {
            road.give(1);
        }
        for (int left = 7; left >= 0; left--) {
            Check.due("undo", road.undo(), left);
        }
        Check.due("money", road.count(6), 1494);
        Check.throwing("the 512th call", Check.STATE, road::undo);
        RoadWear texts = new RoadWear();
        for (int time = 0; time < 170; time++) {
            Check.due("loadRoad", Check.load(texts, time % 2 == 0 ? "road 2 2;rut 1 1 7;" : "road 1 1;"), time % 2 == 0 ? 4 : 1);
        }
        Check.due("the last text", texts.count(2), 1);
    }
}
