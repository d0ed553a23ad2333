/** Questions and refused calls, which change nothing, changes that are undone, and the order of the exceptions. */
public final class RefusedTest {
    private interface Road {
        RoadWear make();
    }

    private interface Use {
        Object answer(RoadWear road);
    }

    public static void main(String[] args) {
        questions();
        onlyWhatTheySay();
        indexes();
        arguments();
        states();
        order();
        orderAtLimits();
        withoutCells();
        refusedPatches();
        changes();
        Check.finish("RefusedTest");
    }

    /** A call after which the road is as it was ahead of it. */
    private static void quiet(String what, Road maker, Use use) {
        RoadWear road = maker.make();
        use.answer(road);
        Check.due("the state behind " + what, States.all(road), States.all(maker.make()));
    }

    private static void refused(String what, Class<?> want, Road maker, Use use) {
        RoadWear road = maker.make();
        Check.throwing(what, want, () -> use.answer(road));
        Check.due("the state behind " + what, States.all(road), States.all(maker.make()));
    }

    private static void refused(String what, Class<?> want, Use use) {
        refused(what, want, States::busy, use);
    }

    private static void questions() {
        Check.sentence(0, "Questions change nothing");
        quiet("errorCode", States::busy, RoadWear::errorCode);
        quiet("errorOffset", States::busy, RoadWear::errorOffset);
        quiet("count and setting", States::busy, r -> r.count(10) + r.setting(5));
        quiet("cell", States::busy, r -> r.cell(3, 8));
        quiet("worn and capacity", States::busy, r -> r.worn(0) + r.capacity(3));
        quiet("layer", States::busy, r -> r.layer(3, 1, 1));
        quiet("core and load", States::busy, r -> r.core(1, 2) + r.load(1, 6));
        quiet("base, baseOf and units", States::busy, r -> r.base(3) + r.baseOf(1, 3) + r.units(0));
        quiet("heaviest and failsBy", States::busy, r -> r.heaviest(3) + r.failsBy(3));
        quiet("yearsLeft", States::busy, r -> r.yearsLeft(3));
        quiet("nthCell", States::busy, r -> r.nthCell(3));
        quiet("laneYears and firstFailing", States::busy, r -> r.laneYears(1) + r.firstFailing(1));
        quiet("failing", States::busy, r -> r.failing(60));
        quiet("rutIn and wornIn", States::busy, r -> r.rutIn(3, 60) + r.wornIn(3, 60));
        quiet("countIn", States::busy, r -> r.countIn(0, 60));
        quiet("yearsWith", States::busy, r -> r.yearsWith(3, 900));
        quiet("yearsIfClosed", States::busy, r -> r.yearsIfClosed(0, 1));
        quiet("safestClosing", States::busy, RoadWear::safestClosing);
        quiet("weakest and nextCore", States::busy, r -> r.weakest() + r.nextCore());
        quiet("discardTells", States::busy, r -> r.discardTells(0) + r.discardTells(2));
        for (int kind = RoadWear.FILL; kind <= RoadWear.REBUILD; kind++) {
            int patch = kind;
            quiet("cost of " + kind, States::busy, r -> r.cost(patch, 3, 10));
            quiet("whyNot " + kind, States::busy, r -> r.whyNot(patch, 3, 10));
            quiet("yearsBehind " + kind, States::busy, r -> r.yearsBehind(patch, 3, 10));
        }
        quiet("cheapest", States::busy, r -> r.cheapest(3, 60));
        quiet("planCost", States::busy, r -> r.planCost(60));
        quiet("meanRut and wornShare", States::busy, r -> r.meanRut(1) + r.wornShare(3));
        quiet("outputByte", States::busy, r -> r.outputByte(0) + r.outputByte(-1) + r.outputByte(999));
    }

    /** Methods that are no change, but touch the buffer, the output or the saved state. */
    private static void onlyWhatTheySay() {
        Check.promise(2);
        RoadWear appended = States.busy();
        Check.due("appendInput", appended.appendInput(1, 2, 3, 4, 5), 29);
        Check.due("all but the buffer", States.error(appended) + States.told(appended), errorAndTold());
        Check.promise(3);
        RoadWear cut = States.busy();
        Check.due("truncateInput", cut.truncateInput(0), true);
        Check.due("all but the buffer", States.error(cut) + States.told(cut), errorAndTold());
        quiet("truncateInput that is refused", States::busy, r -> r.truncateInput(10));
        quiet("truncateInput that is refused", States::busy, r -> r.truncateInput(-1));
        quiet("truncateInput to the same length", States::busy, r -> r.truncateInput(9));
        Check.promise(54);
        RoadWear cell = States.busy();
        cell.printCell(0);
        Check.due("all but the output", States.error(cell) + States.told(cell), errorAndTold());
        Check.promise(55);
        RoadWear lane = States.busy();
        lane.printLane(1);
        Check.due("all but the output", States.error(lane) + States.told(lane), errorAndTold());
        Check.promise(56);
        RoadWear loads = States.busy();
        loads.printLoads();
        Check.due("all but the output", States.error(loads) + States.told(loads), errorAndTold());
        Check.promise(58);
        RoadWear saved = States.busy();
        Check.due("saveState", saved.saveState(), 2);
        Check.due("changes", saved.count(13), 8);
        String wanted = States.told(States.busy());
        String got = States.told(saved);
        int restored = wanted.indexOf(" restore ");
        Check.due("all but the saved state", got.substring(0, restored), wanted.substring(0, restored));
        Check.due("the saved state", got.equals(wanted), false);
    }

    private static String errorAndTold() {
        RoadWear road = States.busy();
        return States.error(road) + States.told(road);
    }

    /** Each method with an index that there is not, on either side. */
    private static void indexes() {
        Check.sentence(0, "A method that throws changes nothing");
        for (int bad : new int[] {-1, 4, Integer.MAX_VALUE, Integer.MIN_VALUE}) {
            refused("cell", Check.INDEX, r -> r.cell(bad, 0));
            refused("worn", Check.INDEX, r -> r.worn(bad));
            refused("capacity", Check.INDEX, r -> r.capacity(bad));
            refused("layer of a cell", Check.INDEX, r -> r.layer(bad, 0, 0));
            refused("layer", Check.INDEX, r -> r.layer(0, bad, 0));
            refused("core", Check.INDEX, r -> r.core(bad, 0));
            refused("load", Check.INDEX, r -> r.load(bad, 0));
            refused("base", Check.INDEX, r -> r.base(bad));
            refused("baseOf", Check.INDEX, r -> r.baseOf(bad, 0));
            refused("baseOf", Check.INDEX, r -> r.baseOf(0, bad));
            refused("heaviest", Check.INDEX, r -> r.heaviest(bad));
            refused("units", Check.INDEX, r -> r.units(bad));
            refused("failsBy", Check.INDEX, r -> r.failsBy(bad));
            refused("yearsLeft", Check.INDEX, r -> r.yearsLeft(bad));
            refused("nthCell", Check.INDEX, r -> r.nthCell(bad));
            refused("laneYears", Check.INDEX, r -> r.laneYears(bad));
            refused("firstFailing", Check.INDEX, r -> r.firstFailing(bad));
            refused("rutIn", Check.INDEX, r -> r.rutIn(bad, 1));
            refused("wornIn", Check.INDEX, r -> r.wornIn(bad, 1));
            refused("countIn", Check.INDEX, r -> r.countIn(bad, 1));
            refused("yearsWith", Check.INDEX, r -> r.yearsWith(bad, 0));
            refused("yearsIfClosed", Check.INDEX, r -> r.yearsIfClosed(bad, 0));
            refused("yearsIfClosed", Check.INDEX, r -> r.yearsIfClosed(0, bad));
            refused("discardTells", Check.INDEX, r -> r.discardTells(bad));
            refused("cost", Check.INDEX, r -> r.cost(1, bad, 0));
            refused("whyNot", Check.INDEX, r -> r.whyNot(1, bad, 0));
            refused("yearsBehind", Check.INDEX, r -> r.yearsBehind(1, bad, 0));
            refused("cheapest", Check.INDEX, r -> r.cheapest(bad, 1));
            refused("meanRut", Check.INDEX, r -> r.meanRut(bad));
            refused("wornShare", Check.INDEX, r -> r.wornShare(bad));
            refused("drill", Check.INDEX, r -> r.drill(bad, 0, 1));
            refused("addLayer", Check.INDEX, r -> r.addLayer(bad, 0, 1));
            refused("discard", Check.INDEX, r -> r.discard(bad));
            refused("measure", Check.INDEX, r -> r.measure(bad, 0));
            refused("addLoad on a lane", Check.INDEX, r -> r.addLoad(bad, 0, 0, 1, 0, 0));
            refused("addLoad from a station", Check.INDEX, r -> r.addLoad(0, bad, 1, 1, 0, 0));
            refused("addLoad to a station", Check.INDEX, r -> r.addLoad(0, 0, bad, 1, 0, 0));
            refused("removeLoad", Check.INDEX, r -> r.removeLoad(bad));
            refused("setCount", Check.INDEX, r -> r.setCount(bad, 0));
            refused("close", Check.INDEX, r -> r.close(bad, true));
            refused("patch", Check.INDEX, r -> r.patch(1, bad, 0));
            refused("printCell", Check.INDEX, r -> r.printCell(bad));
            refused("printLane", Check.INDEX, r -> r.printLane(bad));
        }
        // one behind the last, of those of which there are less than four
        refused("core 3", Check.INDEX, r -> r.core(3, 0));
        refused("load 2", Check.INDEX, r -> r.load(2, 0));
        refused("layer 2 of 2", Check.INDEX, r -> r.layer(3, 2, 0));
        refused("lane 2", Check.INDEX, r -> r.laneYears(2));
        refused("baseOf load 2", Check.INDEX, r -> r.baseOf(2, 0));
        refused("firstFailing of lane 2", Check.INDEX, r -> r.firstFailing(2));
        refused("countIn of load 2", Check.INDEX, r -> r.countIn(2, 1));
        refused("yearsIfClosed of lane 2", Check.INDEX, r -> r.yearsIfClosed(2, 0));
        refused("yearsIfClosed with lane 2", Check.INDEX, r -> r.yearsIfClosed(0, 2));
        refused("discardTells of core 3", Check.INDEX, r -> r.discardTells(3));
        refused("meanRut of lane 2", Check.INDEX, r -> r.meanRut(2));
        refused("addLayer to core 3", Check.INDEX, r -> r.addLayer(3, 0, 1));
        refused("discard of core 3", Check.INDEX, r -> r.discard(3));
        refused("addLoad on lane 2", Check.INDEX, r -> r.addLoad(2, 0, 0, 1, 0, 0));
        refused("addLoad from station 2", Check.INDEX, r -> r.addLoad(0, 2, 2, 1, 0, 0));
        refused("addLoad to station 2", Check.INDEX, r -> r.addLoad(0, 0, 2, 1, 0, 0));
        refused("removeLoad of load 2", Check.INDEX, r -> r.removeLoad(2));
        refused("setCount of load 2", Check.INDEX, r -> r.setCount(2, 0));
        refused("close of lane 2", Check.INDEX, r -> r.close(2, true));
        refused("printLane of lane 2", Check.INDEX, r -> r.printLane(2));
    }

    /** Each argument one too small and one too great. */
    private static void arguments() {
        Check.sentence(0, "A method that throws changes nothing");
        for (int side = 0; side < 2; side++) {
            boolean low = side == 0;
            refused("count", Check.ARGUMENT, r -> r.count(low ? -1 : 14));
            refused("setting", Check.ARGUMENT, r -> r.setting(low ? -1 : 6));
            refused("cell", Check.ARGUMENT, r -> r.cell(0, low ? -1 : 9));
            refused("layer", Check.ARGUMENT, r -> r.layer(0, 0, low ? -1 : 2));
            refused("core", Check.ARGUMENT, r -> r.core(0, low ? -1 : 3));
            refused("load", Check.ARGUMENT, r -> r.load(0, low ? -1 : 7));
            refused("failing", Check.ARGUMENT, r -> r.failing(low ? 0 : 61));
            refused("rutIn", Check.ARGUMENT, r -> r.rutIn(0, low ? 0 : 61));
            refused("wornIn", Check.ARGUMENT, r -> r.wornIn(0, low ? 0 : 61));
            refused("countIn", Check.ARGUMENT, r -> r.countIn(0, low ? 0 : 61));
            refused("yearsWith", Check.ARGUMENT, r -> r.yearsWith(0, low ? -1 : 901));
            refused("cheapest", Check.ARGUMENT, r -> r.cheapest(0, low ? 0 : 61));
            refused("planCost", Check.ARGUMENT, r -> r.planCost(low ? 0 : 61));
            refused("pass", Check.ARGUMENT, r -> r.pass(low ? 0 : 61));
            refused("kind of a patch", Check.ARGUMENT, r -> r.patch(low ? 0 : 4, 0, 10));
            refused("mm of a patch", Check.ARGUMENT, r -> r.patch(2, 0, low ? 9 : 101));
            refused("kind of cost", Check.ARGUMENT, r -> r.cost(low ? 0 : 4, 0, 10));
            refused("mm of cost", Check.ARGUMENT, r -> r.cost(2, 0, low ? 9 : 101));
            refused("kind of whyNot", Check.ARGUMENT, r -> r.whyNot(low ? 0 : 4, 0, 10));
            refused("mm of whyNot", Check.ARGUMENT, r -> r.whyNot(2, 0, low ? 9 : 101));
            refused("kind of yearsBehind", Check.ARGUMENT, r -> r.yearsBehind(low ? 0 : 4, 0, 10));
            refused("mm of yearsBehind", Check.ARGUMENT, r -> r.yearsBehind(2, 0, low ? 9 : 101));
            refused("kind of drill", Check.ARGUMENT, r -> r.drill(2, low ? -1 : 4, 1));
            refused("mm of drill", Check.ARGUMENT, r -> r.drill(2, 0, low ? 0 : 501));
            refused("kind of addLayer", Check.ARGUMENT, r -> r.addLayer(0, low ? -1 : 4, 1));
            refused("mm of addLayer", Check.ARGUMENT, r -> r.addLayer(0, 0, low ? 0 : 501));
            refused("measure", Check.ARGUMENT, r -> r.measure(0, low ? -1 : 10000));
            refused("weight", Check.ARGUMENT, r -> r.addLoad(0, 0, 1, low ? 0 : 31, 0, 0));
            refused("count of addLoad", Check.ARGUMENT, r -> r.addLoad(0, 0, 1, 1, low ? -1 : 1000000, 0));
            refused("growth", Check.ARGUMENT, r -> r.addLoad(0, 0, 1, 1, 0, low ? -1 : 21));
            refused("setCount", Check.ARGUMENT, r -> r.setCount(0, low ? -1 : 1000000));
            refused("give", Check.ARGUMENT, r -> r.give(low ? 0 : 1000000));
            refused("what of set", Check.ARGUMENT, r -> r.set(low ? -1 : 6, 10));
        }
        refused("last less than first", Check.ARGUMENT, r -> r.addLoad(0, 1, 0, 1, 0, 0));
        int[][] ranges = {{1, 999}, {10, 999}, {1, 9999}, {0, 999}, {0, 999}, {0, 9999}};
        for (int index = 0; index < ranges.length; index++) {
            int what = index;
            refused("set " + what, Check.ARGUMENT, r -> r.set(what, ranges[what][0] - 1));
            refused("set " + what, Check.ARGUMENT, r -> r.set(what, ranges[what][1] + 1));
        }
    }

    private static void states() {
        Check.sentence(0, "A method that throws changes nothing");
        refused("a year too many", Check.STATE, States::old, r -> r.pass(1));
        refused("60 years too many", Check.STATE, States::old, r -> r.pass(60));
        refused("a core twice", Check.STATE, r -> r.drill(0, 0, 1));
        refused("a 13th core", Check.STATE, States::full, r -> r.drill(15, 0, 1));
        refused("a fifth layer", Check.STATE, States::full, r -> r.addLayer(0, 0, 1));
        refused("an 11th load", Check.STATE, States::full, r -> r.addLoad(0, 0, 0, 1, 0, 0));
        refused("nothing saved", Check.STATE, States::full, RoadWear::restoreState);
        refused("nothing to undo", Check.STATE, () -> Check.road("road 1 1;"), RoadWear::undo);
        refused("no cells to pass", Check.STATE, RoadWear::new, r -> r.pass(1));
        refused("nothing to undo at first", Check.STATE, RoadWear::new, RoadWear::undo);
        refused("nothing saved at first", Check.STATE, RoadWear::new, RoadWear::restoreState);
        refused("no weakest cell", Check.NOTHING, RoadWear::new, RoadWear::weakest);
    }

    private static void order() {
        Check.sentence(0, "If several exceptions apply to a call, the one that is listed first is thrown");
        refused("cell", Check.INDEX, r -> r.cell(4, 9));
        refused("layer: cell and what", Check.INDEX, r -> r.layer(4, 0, 2));
        refused("layer: layer and what", Check.INDEX, r -> r.layer(0, 4, 2));
        refused("layer: cell and layer", Check.INDEX, r -> r.layer(-1, -1, 0));
        refused("core", Check.INDEX, r -> r.core(3, 3));
        refused("load", Check.INDEX, r -> r.load(2, 7));
        refused("rutIn", Check.INDEX, r -> r.rutIn(4, 0));
        refused("wornIn", Check.INDEX, r -> r.wornIn(4, 61));
        refused("countIn", Check.INDEX, r -> r.countIn(2, 61));
        refused("yearsWith", Check.INDEX, r -> r.yearsWith(4, -1));
        refused("cheapest", Check.INDEX, r -> r.cheapest(4, 0));
        for (int kind : new int[] {0, 2, 4}) {
            refused("cost", Check.INDEX, r -> r.cost(kind, 4, 9));
            refused("whyNot", Check.INDEX, r -> r.whyNot(kind, 4, 101));
            refused("yearsBehind", Check.INDEX, r -> r.yearsBehind(kind, -1, 9));
            refused("patch", Check.INDEX, r -> r.patch(kind, 4, 9));
        }
        refused("drill: cell and kind", Check.INDEX, r -> r.drill(4, 4, 0));
        refused("drill: mm and a core there", Check.ARGUMENT, r -> r.drill(0, 0, 0));
        refused("drill: kind and a core there", Check.ARGUMENT, r -> r.drill(0, 4, 1));
        refused("addLayer", Check.INDEX, r -> r.addLayer(3, 4, 0));
        refused("measure", Check.INDEX, r -> r.measure(4, -1));
        refused("addLoad: lane and weight", Check.INDEX, r -> r.addLoad(2, 0, 0, 0, -1, 21));
        refused("addLoad: a station and weight", Check.INDEX, r -> r.addLoad(0, 2, 2, 31, 0, 0));
        refused("addLoad: a last one that there is not and that is less", Check.INDEX,
                r -> r.addLoad(0, 1, -1, 1, 0, 0));
        refused("addLoad: a first one that there is not and that is greater", Check.INDEX,
                r -> r.addLoad(0, 2, 1, 1, 0, 0));
        refused("setCount", Check.INDEX, r -> r.setCount(2, -1));
    }

    private static void orderAtLimits() {
        Check.sentence(0, "If several exceptions apply to a call, the one that is listed first is thrown");
        refused("drill: cell", Check.INDEX, States::full, r -> r.drill(16, 0, 1));
        refused("drill: kind", Check.ARGUMENT, States::full, r -> r.drill(15, 4, 1));
        refused("drill: mm", Check.ARGUMENT, States::full, r -> r.drill(15, 0, 501));
        refused("addLayer: core", Check.INDEX, States::full, r -> r.addLayer(12, 4, 0));
        refused("addLayer: kind", Check.ARGUMENT, States::full, r -> r.addLayer(0, 4, 1));
        refused("addLayer: mm", Check.ARGUMENT, States::full, r -> r.addLayer(0, 0, 0));
        refused("addLoad: lane", Check.INDEX, States::full, r -> r.addLoad(1, 0, 0, 1, 0, 0));
        refused("addLoad: first", Check.INDEX, States::full, r -> r.addLoad(0, 16, 16, 1, 0, 0));
        refused("addLoad: last", Check.INDEX, States::full, r -> r.addLoad(0, 0, 16, 1, 0, 0));
        refused("addLoad: last less than first", Check.ARGUMENT, States::full, r -> r.addLoad(0, 1, 0, 1, 0, 0));
        refused("addLoad: weight", Check.ARGUMENT, States::full, r -> r.addLoad(0, 0, 0, 31, 0, 0));
        refused("addLoad: count", Check.ARGUMENT, States::full, r -> r.addLoad(0, 0, 0, 1, -1, 0));
        refused("addLoad: growth", Check.ARGUMENT, States::full, r -> r.addLoad(0, 0, 0, 1, 0, 21));
        refused("pass: years", Check.ARGUMENT, States::old, r -> r.pass(61));
        refused("pass: years", Check.ARGUMENT, States::old, r -> r.pass(0));
        refused("pass: years", Check.ARGUMENT, RoadWear::new, r -> r.pass(0));
        refused("pass: years", Check.ARGUMENT, RoadWear::new, r -> r.pass(61));
    }

    /** A new object has neither cells nor cores nor loads nor lanes. */
    private static void withoutCells() {
        Check.sentence(1, "Creates a road without stations and lanes, with no loads and cores");
        Use[] uses = {r -> r.cell(0, 9), r -> r.worn(0), r -> r.capacity(0), r -> r.layer(0, 0, 2), r -> r.core(0, 3),
            r -> r.load(0, 7), r -> r.base(0), r -> r.baseOf(0, 0), r -> r.heaviest(0), r -> r.units(0),
            r -> r.failsBy(0), r -> r.yearsLeft(0), r -> r.nthCell(0), r -> r.laneYears(0), r -> r.firstFailing(0),
            r -> r.rutIn(0, 0), r -> r.wornIn(0, 0), r -> r.countIn(0, 0), r -> r.yearsWith(0, -1),
            r -> r.yearsIfClosed(0, 0), r -> r.discardTells(0), r -> r.cost(0, 0, 0), r -> r.whyNot(0, 0, 0),
            r -> r.yearsBehind(0, 0, 0), r -> r.cheapest(0, 0), r -> r.meanRut(0), r -> r.wornShare(0),
            r -> r.drill(0, 4, 0), r -> r.addLayer(0, 4, 0), r -> r.discard(0), r -> r.measure(0, -1),
            r -> r.addLoad(0, 0, 0, 0, -1, 21), r -> r.removeLoad(0), r -> r.setCount(0, -1), r -> r.close(0, true),
            r -> r.patch(0, 0, 0), r -> r.printCell(0), r -> r.printLane(0)};
        for (int index = 0; index < uses.length; index++) {
            refused("use " + index + " of a new object", Check.INDEX, RoadWear::new, uses[index]);
        }
    }

    /** A change, which differs from what was, and is undone by one call. */
    private static void change(int promise, String words, Use use) {
        Check.sentence(promise, words);
        RoadWear road = States.small();
        use.answer(road);
        Check.due("changes", road.count(13), 4);
        Check.due("something is different", States.told(road).equals(States.told(States.small())), false);
        RoadWear undone = States.small();
        use.answer(undone);
        Check.due("undo", undone.undo(), 3);
        Check.due("the state behind undo", States.told(undone), States.told(States.small()));
    }

    private static void changes() {
        change(41, "Lets years pass. This is a change", r -> r.pass(60));
        change(42, "Drills a core, with one layer. This is a change", r -> r.drill(1, 3, 500));
        change(43, "Adds a layer below the others of a core. This is a change", r -> r.addLayer(0, 2, 500));
        change(44, "Discards a core. This is a change", r -> r.discard(0));
        change(45, "Sets the rut of a cell as it was measured. This is a change", r -> r.measure(3, 9999));
        change(46, "Adds a load. This is a change", r -> r.addLoad(1, 0, 1, 30, 999999, 20));
        change(47, "those behind it get numbers that are 1 less. This is a change", r -> r.removeLoad(0));
        change(48, "Sets the count of a load. This is a change", r -> r.setCount(1, 0));
        change(49, "Closes a lane, or opens it. This is a change", r -> r.close(1, false));
        change(49, "Closes a lane, or opens it. This is a change", r -> r.close(0, true));
        change(50, "This is a change, if it is not refused", r -> r.patch(RoadWear.FILL, 0, 0));
        change(50, "This is a change, if it is not refused", r -> r.patch(RoadWear.OVERLAY, 0, 100));
        change(50, "This is a change, if it is not refused", r -> r.patch(RoadWear.REBUILD, 0, 0));
        for (int what = 0; what < 6; what++) {
            int setting = what;
            change(51, "Sets a setting. This is a change", r -> r.set(setting, 999));
        }
        change(52, "Gives money. This is a change", r -> r.give(999999));
    }

    private static void refusedPatches() {
        Check.sentence(50, "This is a change, if it is not refused");
        Road poor = () -> {
            RoadWear road = States.full();
            road.patch(RoadWear.OVERLAY, 0, 100);
            road.patch(RoadWear.OVERLAY, 0, 100);
            road.patch(RoadWear.OVERLAY, 0, 100);
            road.patch(RoadWear.REBUILD, 1, 0);
            road.set(5, 9999);
            return road;
        };
        quiet("no money", poor, r -> r.patch(RoadWear.REBUILD, 2, 0));
        quiet("no rut", poor, r -> r.patch(RoadWear.FILL, 0, 0));
        quiet("an overlay of 310 mm", poor, r -> r.patch(RoadWear.OVERLAY, 0, 10));
        quiet("a rebuilt cell", () -> {
            RoadWear road = poor.make();
            road.set(5, 0);
            return road;
        }, r -> r.patch(RoadWear.REBUILD, 1, 0));
        RoadWear road = poor.make();
        Check.due("no money", road.patch(RoadWear.REBUILD, 2, 0), -1);
        Check.due("no rut", road.patch(RoadWear.FILL, 0, 0), -2);
        Check.due("an overlay of 310 mm", road.patch(RoadWear.OVERLAY, 0, 10), -3);
        road.set(5, 0);
        Check.due("a rebuilt cell", road.patch(RoadWear.REBUILD, 1, 0), -4);
    }
}
