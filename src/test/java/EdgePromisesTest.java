/** The edges that the promises name, sentence by sentence, in their order. */
public final class EdgePromisesTest {
    /** A cell of strength 1 (square 1) under a base of 1: a rut of one tenth more each year, and one unit worn. */
    private static final String SLOW = "design sand 1;soft 1;life 9999;load 0 0 0 10 1;";

    public static void main(String[] args) {
        newObject();
        input();
        errors();
        numbers();
        cells();
        layersAndCores();
        loads();
        units();
        yearsLeft();
        order();
        lanes();
        forecasts();
        yearsWith();
        closing();
        safestClosing();
        strengths();
        nextCore();
        costs();
        yearsBehind();
        cheapest();
        planCost();
        means();
        pass();
        drilling();
        movedCores();
        measuring();
        changingLoads();
        closingAndPatching();
        setting();
        undo();
        printing();
        saving();
        Check.promise(59);
        for (int promise = 1; promise <= 59; promise++) {
            Check.due("promise " + promise + " is here", Check.promisesWithSentences().contains(promise), true);
        }
        Check.finish("EdgePromisesTest");
    }

    private static void newObject() {
        Check.sentence(1, "all settings and the money as without statements for them, and an empty input buffer");
        RoadWear road = new RoadWear();
        RoadWear loaded = Check.road("road 1 1;");
        for (int what = 0; what < 6; what++) {
            Check.due("setting(" + what + ")", road.setting(what), loaded.setting(what));
        }
        Check.due("money", road.count(6), 1000);
        Check.due("the buffer has nothing", road.truncateInput(1), false);
        Check.due("the buffer has nothing", road.truncateInput(0), true);
        Check.due("an empty text", road.loadRoad(), -1);
        Check.due("its error", road.errorCode(), RoadWear.SYNTAX);
        Check.due("at 0", road.errorOffset(), 0);
        Check.due("the first change", road.give(1), 1001);
        Check.due("undo", road.undo(), 0);
        Check.due("saveState", road.saveState(), 0);
        Check.due("restoreState", road.restoreState(), 0);
    }

    private static void input() {
        Check.sentence(2, "the four bytes of each parameter, the most significant byte first");
        RoadWear road = new RoadWear();
        // "road", " 2 3", ";sof", "t 45", "6;\n\n"
        Check.due("20", road.appendInput(0x726f6164, 0x20322033, 0x3b736f66, 0x74203435, 0x363b0a0a), 20);
        Check.due("loadRoad", road.loadRoad(), 6);
        Check.due("stations", road.count(0), 2);
        Check.due("SOFT", road.setting(0), 456);
        Check.sentence(2, "Returns the new length of the input buffer; -1, with no change, if it would exceed 700");
        for (int length : new int[] {680, 681, 699, 700}) {
            RoadWear full = new RoadWear();
            Check.append(full, "road 1 1;" + " ".repeat(length - 9));
            Check.due("one more than " + length, full.appendInput(0x20202020, 0x20202020, 0x20202020, 0x20202020, -1),
                    length == 680 ? 700 : -1);
            Check.due("no longer", full.truncateInput(length == 680 ? 701 : length + 1), false);
            Check.due("as long", full.truncateInput(length == 680 ? 700 : length), true);
            Check.due("loadRoad", full.loadRoad(), length == 680 ? -1 : 1);
        }
        RoadWear odd = new RoadWear();
        Check.append(odd, "road 1 ");
        Check.due("behind what it has", odd.appendInput(0x313b2020, 0x20202020, 0x20202020, 0x20202020, 0x20202020), 27);
        Check.due("loadRoad", odd.loadRoad(), 1);
        Check.sentence(3, "Returns true; false, with no change, if length is negative or greater than the current length");
        RoadWear cut = new RoadWear();
        Check.append(cut, "road 1 1;x");
        for (int bad : new int[] {-1, Integer.MIN_VALUE, 11, Integer.MAX_VALUE}) {
            Check.due("truncateInput(" + bad + ")", cut.truncateInput(bad), false);
        }
        Check.due("the same length", cut.truncateInput(10), true);
        Check.due("one less", cut.truncateInput(9), true);
        Check.due("it is not there any more", cut.truncateInput(10), false);
        Check.due("loadRoad", cut.loadRoad(), 1);
        Check.due("0 of 0", cut.truncateInput(0), true);
        Check.due("1 of 0", cut.truncateInput(1), false);
        Check.append(cut, "road 1 1;");
        Check.due("0", cut.truncateInput(0), true);
        Check.due("loadRoad of nothing", cut.loadRoad(), -1);
    }

    private static void errors() {
        Check.sentence(4, "empties the buffer, whether the load succeeds or not");
        RoadWear road = new RoadWear();
        Check.due("succeeds", Check.load(road, "road 1 1;"), 1);
        Check.due("empty", road.truncateInput(1), false);
        Check.due("does not", Check.load(road, "road 1 1;x"), -1);
        Check.due("empty", road.truncateInput(1), false);
        Check.sentence(4, "Returns the number of cells; -1 if there is an error");
        Check.due("the most", Check.load(road, "road 16 4;"), 64);
        Check.due("an error", Check.load(road, "road 16 5;"), -1);
        Check.due("the cells stay", road.count(2), 64);
        Check.sentence(5, "Returns an error code; NO_ERROR if that call succeeded or there was no call");
        Check.due("no call", new RoadWear().errorCode(), RoadWear.NO_ERROR);
        String[] texts = {"road", "road 0 1;", "road 1 1;soft 1;soft 1;", "road 1 1;" + "load 0 0 0 1 1;".repeat(11)};
        for (int code = 1; code <= 4; code++) {
            Check.load(road, texts[code - 1]);
            Check.due("code " + code, road.errorCode(), code);
            Check.due("it stays", road.errorCode(), code);
        }
        Check.load(road, "road 1 1;");
        Check.due("succeeded", road.errorCode(), RoadWear.NO_ERROR);
        Check.sentence(6, "Returns the offset; -1 if errorCode() is NO_ERROR");
        Check.due("no call", new RoadWear().errorOffset(), -1);
        Check.due("succeeded", road.errorOffset(), -1);
        road.loadRoad();
        Check.due("an empty text", road.errorOffset(), 0);
        Check.load(road, "road 1 1; x");
        Check.due("of the latest call", road.errorOffset(), 10);
    }

    private static void numbers() {
        Check.sentence(7, "10 cells that fail now, 11 lanes that are closed, 12 cells that are rebuilt, "
                + "13 changes that can be undone");
        RoadWear road = Check.road("road 16 4;limit 10;money 999999;build 1;");
        for (int what = 10; what < 14; what++) {
            Check.due("count(" + what + ")", road.count(what), 0);
        }
        for (int cell = 0; cell < 64; cell++) {
            road.measure(cell, 10);
        }
        Check.due("all fail", road.count(10), 64);
        for (int lane = 0; lane < 4; lane++) {
            road.close(lane, true);
        }
        Check.due("all are closed", road.count(11), 4);
        for (int cell = 0; cell < 64; cell++) {
            road.patch(RoadWear.REBUILD, cell, 0);
        }
        Check.due("all are rebuilt", road.count(12), 64);
        Check.due("none fails", road.count(10), 0);
        Check.due("paid for rebuilding", road.count(9), 64);
        Check.due("no more than 8", road.count(13), 8);
        Check.throwing("-1", Check.ARGUMENT, () -> road.count(-1));
        Check.throwing("14", Check.ARGUMENT, () -> road.count(14));
        Check.throwing("MAX", Check.ARGUMENT, () -> road.count(Integer.MAX_VALUE));
        Check.throwing("MIN", Check.ARGUMENT, () -> road.count(Integer.MIN_VALUE));
        Check.sentence(8, "0 SOFT, 1 LIMIT, 2 LIFE, 3 FILL, 4 OVER, 5 BUILD");
        int[] settings = {10, 10, 100, 1, 5, 1};
        for (int what = 0; what < 6; what++) {
            Check.due("setting(" + what + ")", road.setting(what), settings[what]);
        }
        Check.throwing("-1", Check.ARGUMENT, () -> road.setting(-1));
        Check.throwing("6, which would be the money", Check.ARGUMENT, () -> road.setting(6));
        Check.throwing("MIN", Check.ARGUMENT, () -> road.setting(Integer.MIN_VALUE));
    }

    private static void cells() {
        Check.sentence(9, "7 the core whose layers it has (NONE if it has those of the DESIGN), 8 the distance of that core "
                + "(NONE without one)");
        RoadWear road = Check.road("road 2 1;core 1 0 sand 1;");
        Check.due("core", road.cell(0, 7), 0);
        Check.due("distance", road.cell(0, 8), 1);
        Check.due("at the core", road.cell(1, 8), 0);
        road.patch(RoadWear.REBUILD, 1, 0);
        Check.due("rebuilt at the core", road.cell(1, 7), RoadWear.NONE);
        Check.due("rebuilt at the core", road.cell(1, 8), RoadWear.NONE);
        Check.due("beside it", road.cell(0, 7), 0);
        road.discard(0);
        Check.due("without cores", road.cell(0, 7), RoadWear.NONE);
        Check.due("without cores", road.cell(0, 8), RoadWear.NONE);
        Check.sentence(9, "4 1 if it is rebuilt, otherwise 0");
        Check.due("rebuilt", road.cell(1, 4), 1);
        Check.due("not", road.cell(0, 4), 0);
        Check.sentence(10, "Returns what a cell has worn");
        RoadWear worn = Check.road("road 1 1;" + SLOW);
        Check.due("nothing at first", worn.worn(0), 0L);
        worn.pass(60);
        Check.due("one in each year", worn.worn(0), 60L);
        worn.patch(RoadWear.OVERLAY, 0, 10);
        Check.due("an overlay leaves it", worn.worn(0), 60L);
        worn.patch(RoadWear.REBUILD, 0, 0);
        Check.due("a rebuild does not", worn.worn(0), 0L);
        RoadWear great = Check.road("road 1 1;rut 0 0 9999;" + "load 0 0 0 30 999999;".repeat(10));
        for (int time = 0; time < 10; time++) {
            great.pass(50);
        }
        Check.due("the most that can be worn in 500 years", great.worn(0), 500 * 8909181090L);
        Check.sentence(11, "Returns the capacity of a cell");
        Check.due("the least one", Check.road("road 1 1;design sand 1;life 1;").capacity(0), 1L);
        Check.due("of the DESIGN", Check.road("road 1 1;").capacity(0), 518400L);
    }

    private static void layersAndCores() {
        Check.sentence(12, "number of a layer, from 0, from above (an overlay is none)");
        RoadWear road = Check.road("road 1 1;core 0 0 sand 1 gravel 2;");
        Check.due("the first one", road.layer(0, 0, 0), 3);
        Check.due("the last one", road.layer(0, 1, 0), 2);
        road.patch(RoadWear.OVERLAY, 0, 50);
        Check.due("still the first one", road.layer(0, 0, 1), 1);
        Check.due("still two", road.cell(0, 6), 2);
        Check.sentence(12, "if there is no such cell or layer");
        Check.throwing("layer 2", Check.INDEX, () -> road.layer(0, 2, 0));
        Check.throwing("layer -1", Check.INDEX, () -> road.layer(0, -1, 0));
        Check.throwing("cell 1", Check.INDEX, () -> road.layer(1, 0, 0));
        road.addLayer(0, 0, 9);
        Check.due("layer 2 now", road.layer(0, 2, 1), 9);
        road.patch(RoadWear.REBUILD, 0, 0);
        Check.throwing("layer 2 of the DESIGN", Check.INDEX, () -> road.layer(0, 2, 0));
        Check.sentence(13, "2 cells that have its layers now");
        RoadWear two = Check.road("road 3 1;core 0 0 sand 1;core 2 0 sand 2;build 0;");
        Check.due("its own and the tie", two.core(0, 2), 2);
        Check.due("its own", two.core(1, 2), 1);
        two.patch(RoadWear.REBUILD, 2, 0);
        Check.due("none", two.core(1, 2), 0);
        two.discard(0);
        Check.due("all that are not rebuilt", two.core(0, 2), 2);
        Check.throwing("core 1", Check.INDEX, () -> two.core(1, 2));
    }

    private static void loads() {
        Check.sentence(14, "4 its count as it is now, 5 its growth, 6 the lane on which it is now (NONE if all are closed)");
        RoadWear road = Check.road("road 1 1;load 0 0 0 10 999999 grows 20;load 0 0 0 10 10 grows 20;");
        road.pass(1);
        Check.due("its count", road.load(0, 4), 999999);
        Check.due("its count", road.load(1, 4), 12);
        Check.due("its growth", road.load(1, 5), 20);
        Check.due("its lane", road.load(1, 6), 0);
        road.close(0, true);
        Check.due("no lane", road.load(1, 6), RoadWear.NONE);
        Check.due("its own lane", road.load(1, 0), 0);
        Check.sentence(15, "Returns the base of a cell for the next year");
        Check.due("no lane", road.base(0), 0L);
        road.close(0, false);
        Check.due("with the counts as they are now", road.base(0), 1000011L);
        road.removeLoad(0);
        road.removeLoad(0);
        Check.due("without loads", road.base(0), 0L);
        Check.sentence(16, "0 if the load is not on the lane and the station of the cell");
        RoadWear part = Check.road("road 4 2;load 1 1 2 10 5;load 0 0 3 1 9999;");
        long[] shares = {0, 0, 0, 0, 0, 5, 5, 0};
        for (int cell = 0; cell < 8; cell++) {
            Check.due("baseOf(0, " + cell + ")", part.baseOf(0, cell), shares[cell]);
        }
        Check.due("too little to count", part.baseOf(1, 0), 0L);
        part.close(1, true);
        Check.due("on lane 0 now", part.baseOf(0, 1), 5L);
        Check.due("not on lane 1 now", part.baseOf(0, 5), 0L);
        Check.sentence(17, "Returns number of the load, the smallest one on a tie; NONE if none adds anything");
        RoadWear many = Check.road("road 2 2;load 1 1 1 10 2;load 0 0 0 1 9999;load 0 0 0 10 2;load 0 0 0 20 1;"
                + "load 0 0 0 10 16;");
        Check.due("16 by loads 3 and 4", many.heaviest(0), 3);
        many.setCount(4, 17);
        Check.due("17 by load 4", many.heaviest(0), 4);
        Check.due("no load there", many.heaviest(1), RoadWear.NONE);
        Check.due("load 0 there", many.heaviest(3), 0);
        many.setCount(0, 0);
        Check.due("a count of 0", many.heaviest(3), RoadWear.NONE);
        many.setCount(0, 1);
        Check.due("a share of 1", many.heaviest(3), 0);
        Check.due("a share that is rounded to 0", Check.road("road 1 1;load 0 0 0 1 9999;").heaviest(0), RoadWear.NONE);
    }

    private static void units() {
        Check.sentence(18, "Returns the units of a cell for the next year");
        RoadWear road = Check.road("road 2 1;" + SLOW + "rut 0 0 999;");
        Check.due("units", road.units(0), 1L);
        road.measure(0, 1000);
        Check.due("units", road.units(0), 2L);
        Check.due("no load there", road.units(1), 0L);
        Check.sentence(19, "Returns 0 it does not fail, 1 by its rut, 2 by what it has worn, 3 by both");
        RoadWear both = Check.road("road 1 1;" + SLOW + "limit 10;");
        Check.due("not", both.failsBy(0), 0);
        both.pass(9);
        Check.due("a rut of 9", both.failsBy(0), 0);
        both.set(2, 9);
        Check.due("9 of 9 worn", both.failsBy(0), 2);
        both.pass(1);
        Check.due("a rut of 10, and 10 of 9 worn", both.failsBy(0), 3);
        both.set(2, 11);
        Check.due("a rut of 10", both.failsBy(0), 1);
        both.set(1, 11);
        Check.due("not", both.failsBy(0), 0);
    }

    private static void yearsLeft() {
        Check.sentence(20, "Returns 0 to 60; NONE if it does not fail within 60 years");
        RoadWear rut = Check.road("road 2 1;" + SLOW + "limit 60;");
        Check.due("by its rut in the last year", rut.yearsLeft(0), 60);
        Check.due("no load there", rut.yearsLeft(1), RoadWear.NONE);
        rut.set(1, 61);
        Check.due("one year too late", rut.yearsLeft(0), RoadWear.NONE);
        rut.pass(1);
        Check.due("a year later", rut.yearsLeft(0), 60);
        rut.measure(0, 61);
        Check.due("now", rut.yearsLeft(0), 0);
        RoadWear worn = Check.road("road 1 1;" + SLOW.replace("9999", "60") + "limit 999;");
        Check.due("by what it has worn in the last year", worn.yearsLeft(0), 60);
        worn.set(2, 61);
        Check.due("one unit too many", worn.yearsLeft(0), RoadWear.NONE);
        worn.pass(60);
        Check.due("a year ahead", worn.yearsLeft(0), 1);
        worn.pass(1);
        Check.due("now", worn.yearsLeft(0), 0);
        worn.set(2, 1);
        Check.due("now and by far", worn.yearsLeft(0), 0);
    }

    private static void ordered(RoadWear road, int... cells) {
        for (int index = 0; index < cells.length; index++) {
            Check.due("nthCell(" + index + ")", road.nthCell(index), cells[index]);
        }
    }

    private static void order() {
        Check.sentence(21, "in the order of all cells by their years left (those without one last), of like ones by their "
                + "strength, the smaller one first, then by their numbers");
        RoadWear road = Check.road("road 4 1;core 0 0 sand 62;core 1 0 sand 38;core 2 0 sand 38;core 3 0 sand 113;");
        ordered(road, 1, 2, 0, 3);
        road.measure(3, 150);
        ordered(road, 3, 1, 2, 0);
        road.measure(2, 9999);
        ordered(road, 2, 3, 1, 0);
        road.measure(0, 150);
        road.measure(1, 150);
        ordered(road, 1, 2, 0, 3);
        // cell 1 has strength 2 (square 4) and fails in 60 years; cell 0 has strength 1 and does not
        RoadWear late = Check.road("road 2 1;core 0 0 sand 1;core 1 0 sand 25;load 0 1 1 10 4;soft 1;life 9999;limit 60;");
        ordered(late, 1, 0);
        late.set(1, 61);
        ordered(late, 0, 1);
        late.setCount(0, 8);
        ordered(late, 1, 0);
        late.setCount(0, 4);
        late.addLoad(0, 0, 0, 10, 2, 0);
        ordered(late, 0, 1);
        // 64 cells of one strength, but for the last one, and the greatest strength that there is for the first one
        RoadWear full = Check.road("road 16 4;core 0 0 asphalt 500 asphalt 500 asphalt 500 asphalt 500;core 1 0 sand 25;"
                + "core 15 3 sand 13;");
        for (int time = 0; time < 3; time++) {
            full.patch(RoadWear.OVERLAY, 0, 100);
        }
        Check.due("the strongest one is the last one", full.nthCell(63), 0);
        Check.due("the weakest one is the first one", full.nthCell(0), full.weakest());
        full.measure(0, 150);
        Check.due("the failing one is the first one", full.nthCell(0), 0);
        Check.sentence(21, "Throws `IndexOutOfBoundsException` if there is no such index");
        Check.throwing("64", Check.INDEX, () -> full.nthCell(64));
        Check.throwing("-1", Check.INDEX, () -> full.nthCell(-1));
    }

    private static void lanes() {
        RoadWear road = Check.road("road 3 2;" + SLOW + "limit 60;load 0 2 2 10 1;");
        Check.sentence(22, "Returns the years; NONE if no cell of it fails within 60 years");
        Check.due("in the last year", road.laneYears(0), 60);
        Check.due("no load", road.laneYears(1), RoadWear.NONE);
        Check.sentence(23, "Returns the station, the smallest one on a tie; NONE if no cell of the lane fails within 60 years");
        Check.due("stations 0 and 2 in the last year", road.firstFailing(0), 0);
        Check.due("no load", road.firstFailing(1), RoadWear.NONE);
        Check.sentence(24, "Returns the number of cells whose years left are not more");
        Check.due("59", road.failing(59), 0);
        Check.due("60", road.failing(60), 2);
        road.measure(2, 1);
        road.measure(4, 60);
        Check.due("now, in 59 and in 60 years", road.failing(1) * 100 + road.failing(59) * 10 + road.failing(60), 123);
        Check.sentence(22, "the least ones of its cells");
        Check.due("59 by station 2", road.laneYears(0), 59);
        Check.due("now by station 1", road.laneYears(1), 0);
        Check.sentence(23, "Finds the station of a lane whose cell has the fewest years left");
        Check.due("59 by station 2", road.firstFailing(0), 2);
        Check.due("now by station 1", road.firstFailing(1), 1);
        road.set(1, 61);
        road.measure(2, 0);
        Check.sentence(22, "Returns the years left of a lane");
        Check.due("one year too late", road.laneYears(0), RoadWear.NONE);
        Check.sentence(23, "NONE if no cell of the lane fails within 60 years");
        Check.due("one year too late", road.firstFailing(0), RoadWear.NONE);
        Check.sentence(24, "Counts the cells that fail now or within some years");
        Check.due("one year too late", road.failing(60), 0);
        Check.throwing("0", Check.ARGUMENT, () -> road.failing(0));
        Check.throwing("61", Check.ARGUMENT, () -> road.failing(61));
        RoadWear all = Check.road("road 16 4;rut 0 0 0;limit 10;");
        all.measure(63, 10);
        Check.due("the last cell alone", all.failing(1), 1);
        Check.due("the last lane", all.laneYears(3), 0);
        Check.due("the last station", all.firstFailing(3), 15);
        Check.due("without cells", new RoadWear().failing(60), 0);
    }

    private static void forecasts() {
        RoadWear road = Check.road("road 1 1;" + SLOW + "load 0 0 0 1 1 grows 20;load 0 0 0 1 833334 grows 20;");
        road.removeLoad(2);
        Check.sentence(25, "Returns the rut behind these years");
        Check.due("1", road.rutIn(0, 1), 1);
        Check.due("60", road.rutIn(0, 60), 60);
        road.measure(0, 9999);
        Check.due("9999 still", road.rutIn(0, 60), 9999);
        road.measure(0, 9990);
        Check.due("9999 at most", road.rutIn(0, 1), 9999);
        Check.sentence(26, "Returns the units behind these years");
        Check.due("1", road.wornIn(0, 1), 10L);
        Check.due("60", road.wornIn(0, 60), 600L);
        road.measure(0, 0);
        road.pass(7);
        Check.due("with what is worn already", road.wornIn(0, 60), 67L);
        road.close(0, true);
        Check.due("no load is there", road.wornIn(0, 60), 7L);
        Check.sentence(27, "Returns the count behind these years");
        Check.due("too few to grow", road.countIn(1, 60), 1);
        RoadWear grown = Check.road("road 1 1;load 0 0 0 1 833333 grows 20;load 0 0 0 1 833334 grows 20;"
                + "load 0 0 0 1 0 grows 20;load 0 0 0 1 999999;load 0 0 0 1 100 grows 1;");
        Check.due("999999.6", grown.countIn(0, 1), 999999);
        Check.due("1000000.8", grown.countIn(1, 1), 999999);
        Check.due("60 years later", grown.countIn(1, 60), 999999);
        Check.due("nothing grows from 0", grown.countIn(2, 60), 0);
        Check.due("no growth", grown.countIn(3, 60), 999999);
        Check.due("100, 101, 102", grown.countIn(4, 2), 102);
        for (int bad : new int[] {0, 61, -1, Integer.MAX_VALUE, Integer.MIN_VALUE}) {
            Check.throwing("rutIn " + bad, Check.ARGUMENT, () -> grown.rutIn(0, bad));
            Check.throwing("wornIn " + bad, Check.ARGUMENT, () -> grown.wornIn(0, bad));
            Check.throwing("countIn " + bad, Check.ARGUMENT, () -> grown.countIn(0, bad));
        }
    }

    private static void yearsWith() {
        Check.sentence(28, "each one, once, times 100 plus this number, divided by 100, rounded down, but not above 999999");
        RoadWear road = Check.road("road 1 1;" + SLOW + "limit 60;");
        Check.due("0 percent", road.yearsWith(0, 0), 60);
        Check.due("1.99 is 1", road.yearsWith(0, 99), 60);
        Check.due("2", road.yearsWith(0, 100), 30);
        Check.due("10", road.yearsWith(0, 900), 6);
        road.addLoad(0, 0, 0, 10, 1, 0);
        Check.due("each one: 1.5 and 1.5 are 2", road.yearsWith(0, 50), 30);
        RoadWear most = Check.road("road 1 1;design asphalt 200 sand 150;soft 1;limit 999;load 0 0 0 10 999999;");
        // a capacity of 1000000, and 99 tenths a year
        Check.due("999999 is not above", most.yearsWith(0, 0), 2);
        Check.due("999999 at most", most.yearsWith(0, 900), 2);
        most.setCount(0, 500000);
        Check.due("999999 at most", most.yearsWith(0, 100), 2);
        // 1000, 1200, 1440, 1728, 2072 and 2486 units, or twice as many
        RoadWear grows = Check.road("road 1 1;design asphalt 200 sand 150;soft 1;limit 999;life 1;"
                + "load 0 0 0 10 1000 grows 20;");
        Check.due("7440 in 5 years, 9926 in 6", grows.yearsWith(0, 0), 7);
        Check.due("10736 in 4 years, 7280 in 3", grows.yearsWith(0, 100), 4);
        Check.sentence(28, "Returns the years; NONE if it would not fail within 60 years");
        road.set(1, 121);
        Check.due("120 in 60 years", road.yearsWith(0, 0), RoadWear.NONE);
        road.set(1, 120);
        Check.due("120 in 60 years", road.yearsWith(0, 0), 60);
        road.measure(0, 120);
        Check.due("now", road.yearsWith(0, 0), 0);
        Check.throwing("-1", Check.ARGUMENT, () -> road.yearsWith(0, -1));
        Check.throwing("901", Check.ARGUMENT, () -> road.yearsWith(0, 901));
    }

    private static void ifClosed(RoadWear road, int... years) {
        for (int index = 0; index < 4; index++) {
            Check.due("yearsIfClosed(" + index / 2 + ", " + index % 2 + ")", road.yearsIfClosed(index / 2, index % 2),
                    years[index]);
        }
    }

    private static void closing() {
        Check.sentence(29, "number of a lane, perhaps the same, perhaps closed already");
        int none = RoadWear.NONE;
        RoadWear road = Check.road("road 1 2;" + SLOW + "limit 60;");
        ifClosed(road, none, 60, 60, none);
        road.close(0, true);
        ifClosed(road, none, none, 60, none);
        road.close(1, true);
        ifClosed(road, none, none, none, none);
        road.close(0, false);
        ifClosed(road, none, 60, none, none);
        Check.due("as it was", road.count(11), 1);
        Check.sentence(29, "Returns the years; NONE if no cell of the lane would fail within 60 years");
        road.set(1, 61);
        ifClosed(road, none, none, none, none);
        road.measure(0, 61);
        ifClosed(road, 0, 0, none, none);
        RoadWear one = Check.road("road 1 1;" + SLOW + "limit 10;");
        Check.due("the only lane", one.yearsIfClosed(0, 0), RoadWear.NONE);
        Check.throwing("lane 1", Check.INDEX, () -> one.yearsIfClosed(1, 0));
        Check.throwing("lane 1", Check.INDEX, () -> one.yearsIfClosed(0, 1));
    }

    private static void safestClosing() {
        // lane 0 is strong, lane 1 fails in 60 years if the load comes there
        RoadWear road = Check.road("road 1 2;core 0 0 asphalt 200;core 0 1 sand 1;soft 1;life 9999;load 0 0 0 10 1;"
                + "limit 60;");
        Check.sentence(30, "(61 if none fails within 60 years)");
        Check.due("none is better than 60", road.safestClosing(), 1);
        road.set(1, 61);
        Check.due("none in either case", road.safestClosing(), 0);
        Check.sentence(30, "Returns the lane, the smallest one on a tie; NONE if no lane is open");
        RoadWear tie = Check.road("road 1 4;limit 10;rut 0 3 10;");
        Check.due("a cell fails whatever is closed", tie.safestClosing(), 0);
        for (int lane = 0; lane < 3; lane++) {
            tie.close(lane, true);
            Check.due("the smallest one that is open", tie.safestClosing(), lane + 1);
        }
        tie.close(3, true);
        Check.due("none is open", tie.safestClosing(), RoadWear.NONE);
        Check.due("no lane at all", new RoadWear().safestClosing(), RoadWear.NONE);
        Check.sentence(30, "the least years left of all cells of all lanes would be greatest");
        // 1 on lane 0, 2 on lane 2: closing 0 or 2 brings one of them to lane 1; closing 1 leaves 30 years of lane 2
        RoadWear three = Check.road("road 1 3;design sand 1;soft 1;life 9999;limit 60;load 0 0 0 10 1;load 2 0 0 10 2;");
        Check.due("30 in each case", three.safestClosing(), 0);
        three.addLoad(1, 0, 0, 10, 1, 0);
        Check.due("closing 1 leaves 30, closing 2 makes 20", three.safestClosing(), 0);
        three.setCount(0, 4);
        // closing 0: 5 on lane 1; closing 1: 5 on lane 0; closing 2: 4 on lane 0 and 3 on lane 1
        Check.due("the last lane", three.safestClosing(), 2);
    }

    private static void strengths() {
        Check.sentence(31, "Returns the cell with the least strength, the smallest one on a tie");
        RoadWear road = Check.road("road 3 1;core 0 0 sand 38;core 1 0 sand 25;core 2 0 sand 37;");
        Check.due("2 by cells 1 and 2", road.weakest(), 1);
        road.patch(RoadWear.OVERLAY, 1, 10);
        Check.due("cell 2", road.weakest(), 2);
        Check.due("one of 64", Check.road("road 16 4;").weakest(), 0);
        RoadWear last = Check.road("road 16 4;money 9999;core 0 0 sand 500;design sand 100;");
        last.patch(RoadWear.REBUILD, 63, 0);
        Check.due("the last one of 64", last.weakest(), 63);
        Check.sentence(31, "Throws `NoSuchElementException` if there are no cells");
        Check.throwing("a new object", Check.NOTHING, () -> new RoadWear().weakest());
        Check.sentence(32, "the absolute differences of their strengths as they are and as they would be if the core was discarded");
        // without core 1 cell 2 is weaker by 10, cell 3 stronger by 10
        RoadWear apart = Check.road("road 5 1;core 0 0 sand 125;core 2 0 sand 250;core 4 0 sand 375;");
        Check.due("10 less and 10 more", apart.discardTells(1), 20);
        Check.due("cells 0 and 1 are 20 then", apart.discardTells(0), 20);
        Check.due("cell 4 is 20 then", apart.discardTells(2), 10);
        apart.patch(RoadWear.REBUILD, 3, 0);
        Check.due("a rebuilt cell is as it is", apart.discardTells(1), 10);
        RoadWear one = Check.road("road 2 1;core 1 0 sand 125;design sand 250;build 0;");
        Check.due("the last core: the DESIGN", one.discardTells(0), 20);
        one.patch(RoadWear.REBUILD, 0, 0);
        one.patch(RoadWear.REBUILD, 1, 0);
        Check.due("all are rebuilt", one.discardTells(0), 0);
        Check.throwing("core 1", Check.INDEX, () -> one.discardTells(1));
        RoadWear same = Check.road("road 2 1;core 0 0 sand 125;core 1 0 sand 126;");
        Check.due("strengths that are alike", same.discardTells(1), 0);
    }

    private static void nextCore() {
        Check.sentence(33, "the cell that is not rebuilt and has the greatest distance to the nearest core");
        RoadWear road = Check.road("road 5 1;core 1 0 sand 1;build 0;");
        Check.due("3 from the core", road.nextCore(), 4);
        road.patch(RoadWear.REBUILD, 4, 0);
        Check.due("2 from the core", road.nextCore(), 3);
        road.patch(RoadWear.REBUILD, 3, 0);
        Check.sentence(33, "the smallest one on a tie (without cores the smallest one that is not rebuilt)");
        Check.due("cells 0 and 2", road.nextCore(), 0);
        road.discard(0);
        Check.due("without cores", road.nextCore(), 0);
        road.patch(RoadWear.REBUILD, 0, 0);
        Check.due("without cores", road.nextCore(), 1);
        Check.sentence(33, "NONE if all cells are rebuilt or have a core");
        road.drill(1, 0, 1);
        Check.due("cell 2 has none", road.nextCore(), 2);
        road.drill(2, 0, 1);
        Check.due("1 and 2 have a core, 0, 3 and 4 are rebuilt", road.nextCore(), RoadWear.NONE);
        road.discard(0);
        road.discard(0);
        road.patch(RoadWear.REBUILD, 1, 0);
        Check.due("2 is left", road.nextCore(), 2);
        road.patch(RoadWear.REBUILD, 2, 0);
        Check.due("all are rebuilt", road.nextCore(), RoadWear.NONE);
        Check.due("no cells", new RoadWear().nextCore(), RoadWear.NONE);
        RoadWear rebuilt = Check.road("road 3 1;core 0 0 sand 1;build 0;");
        rebuilt.patch(RoadWear.REBUILD, 0, 0);
        Check.due("the core of a rebuilt cell counts", rebuilt.nextCore(), 2);
    }

    private static void costs() {
        Check.sentence(34, "Returns what a patch costs, whether it would be refused or not");
        RoadWear road = Check.road("road 1 1;fill 7;over 8;build 9;money 0;");
        Check.due("a fill of a rut of 0", road.cost(RoadWear.FILL, 0, 0), 0);
        Check.due("an overlay without money", road.cost(RoadWear.OVERLAY, 0, 100), 80);
        Check.due("a rebuild without money", road.cost(RoadWear.REBUILD, 0, 0), 9);
        road.set(5, 0);
        road.patch(RoadWear.REBUILD, 0, 0);
        road.set(5, 9);
        Check.due("a rebuild of a rebuilt cell", road.cost(RoadWear.REBUILD, 0, 0), 9);
        Check.sentence(34, "the thickness of an overlay, 10 to 100; otherwise it does not count");
        road.measure(0, 10);
        for (int mm : new int[] {Integer.MIN_VALUE, -1, 0, 9, 101, Integer.MAX_VALUE}) {
            Check.due("a fill", road.cost(RoadWear.FILL, 0, mm), 7);
            Check.due("a rebuild", road.cost(RoadWear.REBUILD, 0, mm), 9);
            Check.throwing("an overlay", Check.ARGUMENT, () -> road.cost(RoadWear.OVERLAY, 0, mm));
            Check.due("whyNot of a fill", road.whyNot(RoadWear.FILL, 0, mm), 1);
            Check.due("yearsBehind a fill", road.yearsBehind(RoadWear.FILL, 0, mm), RoadWear.NONE);
            Check.due("patch with a rebuild", road.patch(RoadWear.REBUILD, 0, mm), -1);
        }
        Check.sentence(34, "if kind is out of range, or mm of an overlay");
        for (int kind : new int[] {Integer.MIN_VALUE, -1, 0, 4, Integer.MAX_VALUE}) {
            Check.throwing("kind " + kind, Check.ARGUMENT, () -> road.cost(kind, 0, 10));
            Check.throwing("kind " + kind, Check.ARGUMENT, () -> road.whyNot(kind, 0, 10));
            Check.throwing("kind " + kind, Check.ARGUMENT, () -> road.yearsBehind(kind, 0, 10));
            Check.throwing("kind " + kind, Check.ARGUMENT, () -> road.patch(kind, 0, 10));
        }
        Check.sentence(35, "Returns the reason, 1 to 4; 0 if it would not be refused");
        RoadWear why = Check.road("road 1 1;fill 0;over 0;build 1;money 0;");
        Check.due("1", why.whyNot(RoadWear.REBUILD, 0, 0), 1);
        Check.due("2", why.whyNot(RoadWear.FILL, 0, 0), 2);
        for (int time = 0; time < 3; time++) {
            Check.due("0", why.whyNot(RoadWear.OVERLAY, 0, 100), 0);
            why.patch(RoadWear.OVERLAY, 0, 100);
        }
        Check.due("3", why.whyNot(RoadWear.OVERLAY, 0, 10), 3);
        why.give(1);
        Check.due("0", why.whyNot(RoadWear.REBUILD, 0, 0), 0);
        why.patch(RoadWear.REBUILD, 0, 0);
        why.set(5, 0);
        Check.due("4", why.whyNot(RoadWear.REBUILD, 0, 0), 4);
    }

    private static void yearsBehind() {
        Check.sentence(36, "whether it would be refused or not; an overlay of more than 300 mm in all counts so, too");
        RoadWear road = Check.road("road 1 1;" + SLOW + "limit 60;money 0;");
        Check.due("a fill of a rut of 0", road.yearsBehind(RoadWear.FILL, 0, 0), 60);
        Check.due("a rebuild without money", road.yearsBehind(RoadWear.REBUILD, 0, 0), 60);
        // strength 4, square 16: no rut any more
        Check.due("an overlay without money", road.yearsBehind(RoadWear.OVERLAY, 0, 10), RoadWear.NONE);
        road.measure(0, 9999);
        Check.due("a fill of a cell that fails", road.yearsBehind(RoadWear.FILL, 0, 0), 60);
        Check.due("a rebuild of a cell that fails", road.yearsBehind(RoadWear.REBUILD, 0, 0), 60);
        // (8 + 300 * 44) / 100 is 132, its square 17424; with 400 mm it is 176, its square 30976
        RoadWear thick = Check.road("road 1 1;design sand 1;soft 1;life 1;limit 999;load 0 0 0 10 20000;");
        for (int time = 0; time < 3; time++) {
            thick.patch(RoadWear.OVERLAY, 0, 100);
        }
        Check.due("300 mm", thick.yearsLeft(0), 1);
        Check.due("it would be refused", thick.whyNot(RoadWear.OVERLAY, 0, 100), 3);
        Check.due("400 mm", thick.yearsBehind(RoadWear.OVERLAY, 0, 100), 2);
        thick.setCount(0, 17424);
        Check.due("as much as the capacity of 300 mm", thick.yearsLeft(0), 1);
        Check.due("310 mm: 136, its square 18496", thick.yearsBehind(RoadWear.OVERLAY, 0, 10), 2);
        Check.sentence(36, "Returns the years; NONE if it would not fail within 60 years");
        RoadWear limit = Check.road("road 1 1;" + SLOW + "limit 61;rut 0 0 5;");
        Check.due("as it is", limit.yearsLeft(0), 56);
        Check.due("a fill: in 61 years", limit.yearsBehind(RoadWear.FILL, 0, 0), RoadWear.NONE);
        Check.due("a rebuild: in 61 years", limit.yearsBehind(RoadWear.REBUILD, 0, 0), RoadWear.NONE);
        limit.set(1, 10);
        Check.due("a fill: in 10 years", limit.yearsBehind(RoadWear.FILL, 0, 0), 10);
        Check.due("a rebuild: in 10 years", limit.yearsBehind(RoadWear.REBUILD, 0, 0), 10);
        RoadWear worn = Check.road("road 1 1;" + SLOW.replace("9999", "10") + "limit 999;");
        worn.pass(10);
        Check.due("a fill of a cell that fails by what it has worn", worn.yearsBehind(RoadWear.FILL, 0, 0), 0);
        Check.due("a rebuild of it", worn.yearsBehind(RoadWear.REBUILD, 0, 0), 10);
    }

    private static void cheapest() {
        Check.sentence(37, "by which a cell does not fail within some years (its years left are more)");
        RoadWear road = Check.road("road 1 1;" + SLOW + "limit 60;money 0;");
        road.measure(0, 1);
        Check.due("behind a fill it has 60 years", road.cheapest(0, 59), 1000);
        Check.due("60 are not more than 60", road.cheapest(0, 60), 2010);
        Check.sentence(37, "0 if it does not fail so without a patch; NONE if there is none");
        Check.due("it has 59 years", road.cheapest(0, 58), 0);
        road.measure(0, 0);
        Check.due("it has 60 years", road.cheapest(0, 59), 0);
        road.set(1, 61);
        Check.due("it has none", road.cheapest(0, 60), 0);
        road.setCount(0, 999999);
        Check.due("none helps", road.cheapest(0, 1), RoadWear.NONE);
        Check.sentence(37, "of several as cheap ones the smallest such number");
        RoadWear tie = Check.road("road 1 1;" + SLOW + "limit 60;rut 0 0 60;fill 7;over 42;build 42;");
        Check.due("42 by each", tie.cheapest(0, 59), 1000);
        tie.set(3, 8);
        Check.due("an overlay and a rebuild", tie.cheapest(0, 59), 2010);
        tie.set(5, 41);
        Check.due("a rebuild", tie.cheapest(0, 59), 3000);
        tie.set(4, 0);
        Check.due("overlays of all thicknesses", tie.cheapest(0, 59), 2010);
        Check.sentence(37, "that would not be refused for the reasons 2 to 4");
        RoadWear rebuilt = Check.road("road 1 1;" + SLOW + "limit 10;fill 0;build 0;over 999;");
        rebuilt.patch(RoadWear.REBUILD, 0, 0);
        Check.due("no fill and no rebuild", rebuilt.cheapest(0, 10), 2010);
        rebuilt.measure(0, 1);
        Check.due("10 years behind a fill or a rebuild are not more", rebuilt.cheapest(0, 10), 2010);
        Check.due("a fill", rebuilt.cheapest(0, 9), 1000);
        rebuilt.set(3, 1);
        Check.due("a rebuild, as there is a rut", rebuilt.cheapest(0, 9), 3000);
        // with 300 mm it fails in 1 year; with more it would not
        RoadWear thick = Check.road("road 1 1;design sand 1;soft 1;life 1;limit 999;load 0 0 0 10 17424;over 0;");
        for (int time = 0; time < 3; time++) {
            thick.patch(RoadWear.OVERLAY, 0, 100);
        }
        Check.due("310 mm would do", thick.yearsBehind(RoadWear.OVERLAY, 0, 10), 2);
        Check.due("no overlay above 300", thick.cheapest(0, 1), RoadWear.NONE);
        thick.undo();
        Check.due("200 mm: 88, its square 7744", thick.yearsLeft(0), 1);
        Check.due("300 mm don't do", thick.cheapest(0, 1), RoadWear.NONE);
        thick.setCount(0, 17423);
        Check.due("300 mm do", thick.cheapest(0, 1), 2100);
        Check.throwing("0", Check.ARGUMENT, () -> thick.cheapest(0, 0));
        Check.throwing("61", Check.ARGUMENT, () -> thick.cheapest(0, 61));
    }

    private static void planCost() {
        Check.sentence(38, "Returns the money; NONE if a cell has none");
        RoadWear road = Check.road("road 2 2;" + SLOW + "limit 60;money 0;fill 3;over 5;");
        Check.due("nothing within 59 years", road.planCost(59), 0);
        Check.due("an overlay for 60 years", road.planCost(60), 5);
        road.measure(3, 60);
        road.measure(1, 11);
        Check.due("a fill of cell 3 alone", road.planCost(59), 5);
        road.set(1, 11);
        Check.due("cells 0, 1 and 3", road.planCost(11), 15);
        Check.due("cells 1 and 3", road.planCost(10), 10);
        RoadWear free = Check.road("road 1 1;limit 10;rut 0 0 10;fill 0;");
        Check.due("for nothing", free.planCost(1), 0);
        RoadWear last = Check.road("road 1 2;design sand 1;load 1 0 0 30 999999;");
        Check.due("the last cell has none", last.planCost(1), RoadWear.NONE);
        last.close(1, true);
        Check.due("the first cell has none", last.planCost(1), RoadWear.NONE);
        last.close(0, true);
        Check.due("no cell fails", last.planCost(60), 0);
        Check.due("no cells", new RoadWear().planCost(60), 0);
        Check.throwing("0", Check.ARGUMENT, () -> new RoadWear().planCost(0));
        Check.throwing("61", Check.ARGUMENT, () -> new RoadWear().planCost(61));
    }

    private static void means() {
        Check.sentence(39, "the sum of the ruts of its cells, divided by their number, both converted to double");
        RoadWear road = Check.road("road 16 2;rut 15 1 1;");
        Check.due("no ruts", road.meanRut(0), 0.0);
        Check.due("1 of 16", road.meanRut(1), 1.0 / 16.0);
        for (int cell = 0; cell < 16; cell++) {
            road.measure(cell, 9999);
        }
        Check.due("the greatest mean", road.meanRut(0), 9999.0);
        Check.due("the other lane", road.meanRut(1), 1.0 / 16.0);
        Check.due("a third", Check.road("road 3 1;rut 0 0 1;").meanRut(0), 1.0 / 3.0);
        Check.throwing("lane 2", Check.INDEX, () -> road.meanRut(2));
        Check.sentence(40, "Returns which part of its capacity a cell has worn: both converted to float and divided");
        RoadWear worn = Check.road("road 1 1;" + SLOW);
        Check.due("nothing", worn.wornShare(0), 0.0f);
        worn.pass(3);
        Check.due("3 of 9999", worn.wornShare(0), 3f / 9999f);
        worn.set(2, 3);
        Check.due("3 of 3", worn.wornShare(0), 1.0f);
        worn.set(2, 1);
        Check.due("3 of 1", worn.wornShare(0), 3.0f);
        // 16777217 and 33554435 are no floats
        RoadWear odd = Check.road("road 1 1;load 0 0 0 10 999999;load 0 0 0 20 985263;load 0 0 0 10 13010;design sand 1;"
                + "life 3;");
        odd.pass(1);
        Check.due("16777217 is worn", odd.worn(0), 16777217L);
        Check.due("it is 16777216 as a float", odd.wornShare(0), 16777216f / 3f);
    }

    private static void pass() {
        Check.sentence(41, "Returns how many cells fail then");
        RoadWear road = Check.road("road 2 2;" + SLOW + "limit 60;rut 0 1 60;load 0 1 1 10 1;");
        Check.due("59 years: the one that failed", road.pass(59), 1);
        Check.due("one more: two of them", road.pass(1), 3);
        Check.sentence(41, "if there are no cells, or the year would be greater than 500");
        Check.throwing("no cells", Check.STATE, () -> new RoadWear().pass(1));
        for (int time = 0; time < 7; time++) {
            road.pass(60);
        }
        Check.due("480", road.count(5), 480);
        for (int years : new int[] {21, 22, 60}) {
            Check.throwing("more than 500", Check.STATE, () -> road.pass(years));
        }
        Check.due("480 still", road.count(5), 480);
        road.pass(20);
        Check.due("500", road.count(5), 500);
        Check.throwing("501", Check.STATE, () -> road.pass(1));
        road.undo();
        Check.due("480 again", road.count(5), 480);
        Check.sentence(41, "Throws `IllegalArgumentException` if years is out of range");
        Check.throwing("0", Check.ARGUMENT, () -> road.pass(0));
        Check.throwing("61", Check.ARGUMENT, () -> road.pass(61));
        Check.throwing("MAX", Check.ARGUMENT, () -> road.pass(Integer.MAX_VALUE));
        Check.throwing("MIN", Check.ARGUMENT, () -> road.pass(Integer.MIN_VALUE));
    }

    private static void drilling() {
        Check.sentence(42, "if there is a core at this cell, or there are 12");
        RoadWear road = Check.road("road 16 1;");
        for (int cell = 0; cell < 12; cell++) {
            Check.due("drill", road.drill(cell, 3, 500), cell);
            int same = cell;
            Check.throwing("there is one", Check.STATE, () -> road.drill(same, 3, 1));
        }
        Check.throwing("there are 12", Check.STATE, () -> road.drill(12, 3, 1));
        road.discard(5);
        Check.due("11 and one more", road.drill(12, 0, 1), 11);
        Check.throwing("there are 12", Check.STATE, () -> road.drill(5, 3, 1));
        road.undo();
        Check.due("between the others again", road.drill(5, 0, 1), 5);
        RoadWear rebuilt = Check.road("road 1 1;");
        rebuilt.patch(RoadWear.REBUILD, 0, 0);
        Check.due("a rebuilt cell may be drilled", rebuilt.drill(0, 3, 1), 0);
        Check.due("it has the layers of the DESIGN", rebuilt.cell(0, 6), 2);
        Check.sentence(43, "Returns how many layers it has then");
        RoadWear layers = Check.road("road 2 1;core 0 0 sand 1;core 1 0 sand 1;");
        for (int number = 2; number <= 4; number++) {
            Check.due("addLayer", layers.addLayer(1, 0, 500), number);
        }
        Check.sentence(43, "Throws `IllegalStateException` if it has 4 layers");
        Check.throwing("the fifth one", Check.STATE, () -> layers.addLayer(1, 0, 1));
        Check.due("the other core", layers.addLayer(0, 3, 1), 2);
        layers.undo();
        layers.undo();
        Check.due("the fourth one again", layers.addLayer(1, 2, 7), 4);
        Check.due("below the others", layers.layer(1, 3, 1), 7);
        Check.sentence(44, "Returns how many cores there are then");
        Check.due("one", layers.discard(0), 1);
        Check.due("the other one is core 0 now", layers.core(0, 0), 1);
        Check.throwing("core 1", Check.INDEX, () -> layers.discard(1));
        Check.due("none", layers.discard(0), 0);
        Check.throwing("core 0", Check.INDEX, () -> layers.discard(0));
        RoadWear full = States.full();
        Check.due("the last of 12", full.discard(11), 11);
        Check.due("the first of 11", full.discard(0), 10);
        Check.due("its layer", full.layer(1, 0, 1), 9);
        Check.due("drill", full.drill(0, 0, 5), 0);
        Check.due("it has one layer", full.core(0, 1), 1);
    }

    private static void layers(RoadWear road, int cell, String text) {
        road.printCell(cell);
        Check.due("the layers of cell " + cell, Check.output(road), text);
    }

    /** Cores get other numbers, but keep their layers, also the last one of four. */
    private static void movedCores() {
        Check.sentence(42, "Returns number of the core");
        RoadWear road = Check.road("road 4 1;core 1 0 asphalt 1 binder 2 gravel 3 sand 4;"
                + "core 3 0 sand 5 gravel 6 binder 7 asphalt 8;");
        Check.due("ahead of both", road.drill(0, 1, 9), 0);
        layers(road, 0, "b9");
        layers(road, 1, "a1+b2+g3+s4");
        layers(road, 3, "s5+g6+b7+a8");
        Check.due("between", road.drill(2, 2, 10), 2);
        layers(road, 1, "a1+b2+g3+s4");
        layers(road, 2, "g10");
        layers(road, 3, "s5+g6+b7+a8");
        Check.sentence(44, "Discards a core");
        Check.due("the first one", road.discard(0), 3);
        layers(road, 1, "a1+b2+g3+s4");
        layers(road, 2, "g10");
        layers(road, 3, "s5+g6+b7+a8");
        Check.due("the one between", road.discard(1), 2);
        layers(road, 1, "a1+b2+g3+s4");
        layers(road, 3, "s5+g6+b7+a8");
        Check.due("the one ahead", road.discard(0), 1);
        layers(road, 1, "s5+g6+b7+a8");
        Check.due("a new one has one layer", road.drill(0, 3, 11), 0);
        layers(road, 0, "s11");
        layers(road, 3, "s5+g6+b7+a8");
    }

    private static void measuring() {
        Check.sentence(45, "Returns the rut before");
        RoadWear road = Check.road("road 2 1;rut 1 0 7;");
        Check.due("0", road.measure(0, 9999), 0);
        Check.due("9999", road.measure(0, 0), 9999);
        Check.due("7", road.measure(1, 8), 7);
        Check.due("8", road.measure(1, 8), 8);
        road.undo();
        road.undo();
        Check.due("7 again", road.measure(1, 1), 7);
        Check.sentence(45, "Throws `IllegalArgumentException` if rut is out of range");
        Check.throwing("-1", Check.ARGUMENT, () -> road.measure(1, -1));
        Check.throwing("10000", Check.ARGUMENT, () -> road.measure(1, 10000));
    }

    private static void changingLoads() {
        Check.sentence(46, "if last is less than first, or weight, count or growth is out of range");
        RoadWear road = Check.road("road 3 2;");
        Check.throwing("last is less", Check.ARGUMENT, () -> road.addLoad(0, 2, 1, 1, 0, 0));
        Check.due("last is first", road.addLoad(1, 2, 2, 1, 0, 0), 0);
        Check.due("last is more", road.addLoad(1, 0, 2, 30, 999999, 20), 1);
        int[][] wrong = {{0, 0, 0}, {31, 0, 0}, {1, -1, 0}, {1, 1000000, 0}, {1, 0, -1}, {1, 0, 21}};
        for (int[] a : wrong) {
            Check.throwing("out of range", Check.ARGUMENT, () -> road.addLoad(0, 0, 0, a[0], a[1], a[2]));
        }
        Check.sentence(46, "Throws `IllegalStateException` if there are 10 loads");
        for (int load = 2; load < 10; load++) {
            Check.due("addLoad", road.addLoad(0, 0, 0, 1, load, 0), load);
        }
        Check.throwing("an 11th one", Check.STATE, () -> road.addLoad(0, 0, 0, 1, 0, 0));
        Check.sentence(47, "Takes a load away; those behind it get numbers that are 1 less");
        Check.due("9 are left", road.removeLoad(3), 9);
        Check.due("the one ahead", road.load(2, 4), 2);
        Check.due("the one behind", road.load(3, 4), 4);
        Check.due("the last one", road.load(8, 4), 9);
        Check.throwing("load 9", Check.INDEX, () -> road.load(9, 4));
        Check.due("room for one", road.addLoad(0, 0, 0, 1, 77, 0), 9);
        Check.due("the last one", road.removeLoad(9), 9);
        Check.due("the first one", road.removeLoad(0), 8);
        Check.due("the one behind", road.load(0, 3), 30);
        Check.due("the last one", road.load(7, 4), 9);
        for (int left = 7; left >= 0; left--) {
            Check.due("removeLoad", road.removeLoad(0), left);
        }
        Check.throwing("load 0", Check.INDEX, () -> road.removeLoad(0));
        Check.sentence(48, "Returns the count before");
        road.addLoad(0, 0, 0, 10, 5, 20);
        Check.due("5", road.setCount(0, 0), 5);
        Check.due("0", road.setCount(0, 999999), 0);
        Check.due("999999", road.setCount(0, 10), 999999);
        road.pass(1);
        Check.due("12, as it has grown", road.setCount(0, 1), 12);
        Check.sentence(48, "Throws `IllegalArgumentException` if count is out of range");
        Check.throwing("-1", Check.ARGUMENT, () -> road.setCount(0, -1));
        Check.throwing("1000000", Check.ARGUMENT, () -> road.setCount(0, 1000000));
    }

    private static void closingAndPatching() {
        Check.sentence(49, "Returns whether it was closed before");
        RoadWear road = Check.road("road 1 4;rut 0 3 7;money 7;fill 7;");
        for (int lane = 0; lane < 4; lane++) {
            Check.due("not", road.close(lane, true), false);
            Check.due("it was", road.close(lane, true), true);
            Check.due("closed lanes", road.count(11), lane + 1);
        }
        Check.due("it was", road.close(3, false), true);
        Check.due("not", road.close(3, false), false);
        Check.due("closed lanes", road.count(11), 3);
        Check.throwing("lane 4", Check.INDEX, () -> road.close(4, false));
        Check.sentence(50, "Returns what it costs, or minus the reason for which it is refused");
        Check.due("all the money", road.patch(RoadWear.FILL, 3, 0), 7);
        Check.due("refused", road.patch(RoadWear.FILL, 3, 0), -2);
        Check.due("refused", road.patch(RoadWear.OVERLAY, 3, 10), -1);
        Check.sentence(50, "This is a change, if it is not refused");
        RoadWear one = Check.road("road 1 1;money 100;");
        Check.due("a rebuild", one.patch(RoadWear.REBUILD, 0, 0), 100);
        Check.due("one change", one.count(13), 1);
        Check.due("refused", one.patch(RoadWear.REBUILD, 0, 0), -1);
        Check.due("one change still", one.count(13), 1);
        Check.due("undo", one.undo(), 0);
        Check.due("the money is back", one.count(6), 100);
        Check.due("nothing was paid", one.count(9), 0);
        Check.due("not rebuilt", one.cell(0, 4), 0);
    }

    private static void setting() {
        Check.sentence(51, "Returns the value before");
        RoadWear road = new RoadWear();
        int[][] ranges = {{1, 999, 10}, {10, 999, 150}, {1, 9999, 100}, {0, 999, 1}, {0, 999, 5}, {0, 9999, 100}};
        for (int index = 0; index < 6; index++) {
            int what = index;
            int[] range = ranges[what];
            Check.due("set " + what, road.set(what, range[0]), range[2]);
            Check.due("set " + what, road.set(what, range[1]), range[0]);
            Check.due("set " + what, road.set(what, range[1]), range[1]);
            Check.throwing("too small", Check.ARGUMENT, () -> road.set(what, range[0] - 1));
            Check.throwing("too great", Check.ARGUMENT, () -> road.set(what, range[1] + 1));
            Check.due("as it was", road.setting(what), range[1]);
        }
        Check.sentence(51, "Throws `IllegalArgumentException` if what or value is out of range");
        Check.throwing("what -1", Check.ARGUMENT, () -> road.set(-1, 10));
        Check.throwing("what 6", Check.ARGUMENT, () -> road.set(6, 10));
        Check.throwing("what MAX", Check.ARGUMENT, () -> road.set(Integer.MAX_VALUE, 10));
        Check.throwing("what MIN", Check.ARGUMENT, () -> road.set(Integer.MIN_VALUE, 10));
        Check.sentence(52, "Returns the money then, 999999 at most (what is beyond is lost)");
        RoadWear money = Check.road("road 1 1;money 0;");
        Check.due("1", money.give(1), 1);
        Check.due("999998", money.give(999997), 999998);
        Check.due("999999", money.give(1), 999999);
        Check.due("999999 still", money.give(1), 999999);
        Check.due("999999 still", money.give(999999), 999999);
        money.undo();
        money.undo();
        money.undo();
        Check.due("one beyond is lost", money.give(2), 999999);
        Check.due("the patch is paid of 999999", money.patch(RoadWear.REBUILD, 0, 0), 100);
        Check.due("the rest", money.count(6), 999899);
        Check.sentence(52, "Throws `IllegalArgumentException` if money is out of range");
        Check.throwing("0", Check.ARGUMENT, () -> money.give(0));
        Check.throwing("-1", Check.ARGUMENT, () -> money.give(-1));
        Check.throwing("1000000", Check.ARGUMENT, () -> money.give(1000000));
    }

    private static void undo() {
        Check.sentence(53, "The input buffer, the error and the output stay");
        RoadWear road = Check.road("road 1 1;");
        Check.load(road, "road 1 1;soft 0;");
        road.give(1);
        road.printCell(0);
        Check.append(road, "road 9 2;");
        Check.due("undo", road.undo(), 0);
        Check.due("the error", States.error(road), "error 2 at 14");
        Check.due("the output", Check.output(road), "a100+g200");
        Check.due("the input buffer", road.truncateInput(10), false);
        Check.due("the input buffer", road.loadRoad(), 18);
        Check.sentence(53, "Returns the number of changes that can still be undone");
        for (int changes = 1; changes <= 8; changes++) {
            RoadWear some = Check.road("road 1 1;");
            for (int time = 0; time < changes; time++) {
                some.give(1);
            }
            for (int left = changes - 1; left >= 0; left--) {
                Check.due("undo", some.undo(), left);
                Check.due("count(13)", some.count(13), left);
                Check.due("money", some.count(6), 1000 + left);
            }
            Check.throwing("none is left", Check.STATE, some::undo);
        }
        Check.sentence(53, "Throws `IllegalStateException` if there is none");
        Check.throwing("a new object", Check.STATE, () -> new RoadWear().undo());
        Check.throwing("a loaded road", Check.STATE, () -> Check.road("road 1 1;").undo());
        RoadWear restored = Check.road("road 1 1;");
        restored.give(1);
        restored.saveState();
        restored.restoreState();
        Check.throwing("a restored state", Check.STATE, restored::undo);
        Check.throwing("still", Check.STATE, restored::undo);
    }

    private static void printed(RoadWear road, int length, String text) {
        Check.due("the output", Check.output(road), text);
        Check.due("its length", length, text.length());
        Check.due("behind it", road.outputByte(length), -1);
    }

    private static void printing() {
        Check.sentence(54, "with a plus sign between two");
        RoadWear road = Check.road("road 1 1;core 0 0 asphalt 1;build 0;design gravel 500 sand 10 asphalt 99 binder 100;");
        printed(road, road.printCell(0), "a1");
        Check.sentence(54, "then, with an overlay, a minus sign and its thickness; an asterisk if the cell is rebuilt");
        road.patch(RoadWear.OVERLAY, 0, 10);
        printed(road, road.printCell(0), "a1-10");
        road.patch(RoadWear.REBUILD, 0, 0);
        printed(road, road.printCell(0), "g500+s10+a99+b100*");
        for (int time = 0; time < 3; time++) {
            road.patch(RoadWear.OVERLAY, 0, 100);
        }
        printed(road, road.printCell(0), "g500+s10+a99+b100-300*");
        Check.sentence(55, "with a space between two, the number, or a hash sign if there is none");
        RoadWear lane = Check.road("road 4 1;" + SLOW + "load 0 1 1 10 10;limit 60;rut 3 0 60;");
        printed(lane, lane.printLane(0), "60 6 # 0");
        lane.set(1, 61);
        printed(lane, lane.printLane(0), "# 7 # #");
        RoadWear full = Check.road("road 16 1;design sand 1;soft 1;life 9999;limit 60;load 0 0 15 10 1;");
        printed(full, full.printLane(0), "60 ".repeat(15) + "60");
        printed(Check.road("road 1 1;"), 0, "");
        RoadWear single = Check.road("road 1 1;");
        printed(single, single.printLane(0), "#");
        Check.sentence(56, "and, if its growth is not 0, a plus sign and the growth; a minus sign without loads");
        RoadWear loads = new RoadWear();
        printed(loads, loads.printLoads(), "-");
        Check.load(loads, "road 16 4;load 3 0 15 30 999999 grows 20;load 0 9 10 1 0 grows 1;load 1 5 5 9 7;");
        printed(loads, loads.printLoads(), "3:0-15x30*999999+20 0:9-10x1*0+1 1:5-5x9*7");
        loads.removeLoad(0);
        loads.removeLoad(0);
        printed(loads, loads.printLoads(), "1:5-5x9*7");
        loads.removeLoad(0);
        printed(loads, loads.printLoads(), "-");
        Check.sentence(57, "Returns the byte; -1 if there is no such byte");
        Check.due("the first one", loads.outputByte(0), (int) '-');
        for (int index : new int[] {1, -1, 255, 256, 257, Integer.MAX_VALUE, Integer.MIN_VALUE}) {
            Check.due("outputByte(" + index + ")", loads.outputByte(index), -1);
        }
        Check.due("a new object", new RoadWear().outputByte(0), -1);
    }

    private static void saving() {
        Check.sentence(58, "in place of an earlier saved state");
        RoadWear road = Check.road("road 1 1;" + SLOW);
        Check.due("the year 0", road.saveState(), 0);
        road.pass(60);
        Check.due("the year 60", road.saveState(), 60);
        road.pass(1);
        Check.due("the later one", road.restoreState(), 60);
        Check.due("worn", road.worn(0), 60L);
        Check.sentence(58, "Saves everything but the input buffer, the error, the output and the changes that can be undone");
        RoadWear busy = States.busy();
        busy.saveState();
        for (int time = 0; time < 8; time++) {
            busy.measure(0, 8000 + time);
        }
        Check.load(busy, "x");
        busy.printLoads();
        Check.append(busy, "abc");
        String output = Check.output(busy);
        Check.due("restoreState", busy.restoreState(), 2);
        Check.due("the output", Check.output(busy), output);
        Check.due("the error", States.error(busy), "error 1 at 9");
        Check.due("the input buffer", busy.truncateInput(4), false);
        Check.due("the input buffer", busy.truncateInput(3), true);
        Check.due("no changes", busy.count(13), 0);
        RoadWear same = States.busy();
        same.saveState();
        same.restoreState();
        Check.due("all else", States.told(busy), States.told(same));
        Check.sentence(59, "Restores the saved state, which stays saved. Nothing can be undone then");
        for (int time = 0; time < 3; time++) {
            road.pass(1);
            road.give(1);
            Check.due("restoreState", road.restoreState(), 60);
            Check.due("worn", road.worn(0), 60L);
            Check.due("changes", road.count(13), 0);
        }
        road.pass(1);
        Check.due("a change of the restored one can be undone", road.undo(), 0);
        Check.due("worn", road.worn(0), 60L);
        Check.sentence(59, "Throws `IllegalStateException` if no state is saved");
        Check.throwing("a new object", Check.STATE, () -> new RoadWear().restoreState());
        Check.due("an error keeps it", Check.load(road, "road"), -1);
        Check.due("restoreState", road.restoreState(), 60);
        Check.due("a load does not", Check.load(road, "road 1 1;"), 1);
        Check.throwing("a loaded road", Check.STATE, road::restoreState);
    }
}
