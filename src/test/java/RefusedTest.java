/** Questions and refused calls, which change nothing, changes that are undone, and the order of the exceptions. */
public final class RefusedTest {
    private interface Road {
        RoadWear make();
    }

    private interface Use {
        Object answer(RoadWear road);
    }

    private interface Indexed {
        Object answer(RoadWear road, int number);
    }

    public static void main(String[] args) {
        questions();
        onlyWhatTheySay();
        indexesOfQuestions();
        indexesOfChanges();
        argumentsOfQuestions();
        argumentsOfChanges();
        states();
        order();
        orderAtLimits();
        withoutCells();
        refusedPatches();
        changes();
        Check.finish("RefusedTest");
    }

    /** A call after which the road is as it was ahead of it. */
    private static void quiet(String what, Road maker, Use use) {
        RoadWear road = maker.make();
        use.answer(road);
        Check.due("the state behind " + what, States.all(road), States.all(maker.make()));
    }

    private static void refused(String what, Class<?> want, Road maker, Use use) {
        RoadWear road = maker.make();
        Check.throwing(what, want, () -> use.answer(road));
        Check.due("the state behind " + what, States.all(road), States.all(maker.make()));
    }

    private static void refused(String what, Class<?> want, Use use) {
        refused(what, want, States::busy, use);
    }

    private static void questions() {
        Check.sentence(0, "Questions change nothing");
        quiet("errorCode", States::busy, RoadWear::errorCode);
        quiet("errorOffset", States::busy, RoadWear::errorOffset);
        quiet("count and setting", States::busy, r -> r.count(10) + r.setting(5));
        quiet("cell", States::busy, r -> r.cell(3, 8));
        quiet("worn and capacity", States::busy, r -> r.worn(0) + r.capacity(3));
        quiet("layer", States::busy, r -> r.layer(3, 1, 1));
        quiet("core and load", States::busy, r -> r.core(1, 2) + r.load(1, 6));
        quiet("base, baseOf and units", States::busy, r -> r.base(3) + r.baseOf(1, 3) + r.units(0));
        quiet("heaviest and failsBy", States::busy, r -> r.heaviest(3) + r.failsBy(3));
        quiet("yearsLeft", States::busy, r -> r.yearsLeft(3));
        quiet("nthCell", States::busy, r -> r.nthCell(3));
        quiet("laneYears and firstFailing", States::busy, r -> r.laneYears(1) + r.firstFailing(1));
        quiet("failing", States::busy, r -> r.failing(60));
        quiet("rutIn and wornIn", States::busy, r -> r.rutIn(3, 60) + r.wornIn(3, 60));
        quiet("countIn", States::busy, r -> r.countIn(0, 60));
        quiet("yearsWith", States::busy, r -> r.yearsWith(3, 900));
        quiet("yearsIfClosed", States::busy, r -> r.yearsIfClosed(0, 1));
        quiet("safestClosing", States::busy, RoadWear::safestClosing);
        quiet("weakest and nextCore", States::busy, r -> r.weakest() + r.nextCore());
        quiet("discardTells", States::busy, r -> r.discardTells(0) + r.discardTells(2));
        for (int kind = RoadWear.FILL; kind <= RoadWear.REBUILD; kind++) {
            int patch = kind;
            quiet("cost of " + kind, States::busy, r -> r.cost(patch, 3, 10));
            quiet("whyNot " + kind, States::busy, r -> r.whyNot(patch, 3, 10));
            quiet("yearsBehind " + kind, States::busy, r -> r.yearsBehind(patch, 3, 10));
        }
        quiet("cheapest", States::busy, r -> r.cheapest(3, 60));
        quiet("planCost", States::busy, r -> r.planCost(60));
        quiet("meanRut and wornShare", States::busy, r -> r.meanRut(1) + r.wornShare(3));
        quiet("outputByte", States::busy, r -> r.outputByte(0) + r.outputByte(-1) + r.outputByte(999));
    }

    /** Methods that are no change, but touch the buffer, the output or the saved state. */
    private static void onlyWhatTheySay() {
        Check.promise(2);
        RoadWear appended = States.busy();
        Check.due("appendInput", appended.appendInput(1, 2, 3, 4, 5), 29);
        Check.due("all but the buffer", States.error(appended) + States.told(appended), errorAndTold());
        Check.promise(3);
        RoadWear cut = States.busy();
        Check.due("truncateInput", cut.truncateInput(0), true);
        Check.due("all but the buffer", States.error(cut) + States.told(cut), errorAndTold());
        quiet("truncateInput that is refused", States::busy, r -> r.truncateInput(10));
        quiet("truncateInput that is refused", States::busy, r -> r.truncateInput(-1));
        quiet("truncateInput to the same length", States::busy, r -> r.truncateInput(9));
        Check.promise(54);
        RoadWear cell = States.busy();
        cell.printCell(0);
        Check.due("all but the output", States.error(cell) + States.told(cell), errorAndTold());
        Check.promise(55);
        RoadWear lane = States.busy();
        lane.printLane(1);
        Check.due("all but the output", States.error(lane) + States.told(lane), errorAndTold());
        Check.promise(56);
        RoadWear loads = States.busy();
        loads.printLoads();
        Check.due("all but the output", States.error(loads) + States.told(loads), errorAndTold());
        Check.promise(58);
        RoadWear saved = States.busy();
        Check.due("saveState", saved.saveState(), 2);
        Check.due("changes", saved.count(13), 8);
        String wanted = States.told(States.busy());
        String got = States.told(saved);
        int restored = wanted.indexOf(" restore ");
        Check.due("all but the saved state", got.substring(0, restored), wanted.substring(0, restored));
        Check.due("the saved state", got.equals(wanted), false);
    }

    private static String errorAndTold() {
        RoadWear road = States.busy();
        return States.error(road) + States.told(road);
    }

    /** Each index on either side of what there is, and the first and the last one. */
    private static void noSuch(int promise, String thing, int size, Indexed use) {
        Check.sentence(promise, "Throws `IndexOutOfBoundsException` if there is no such " + thing);
        for (int bad : new int[] {-1, size, Integer.MAX_VALUE, Integer.MIN_VALUE}) {
            refused("index " + bad, Check.INDEX, r -> use.answer(r, bad));
        }
        answers(0, use);
        answers(size - 1, use);
    }

    /** Each number one too small, one too great and far off, and the least and the greatest one. */
    private static void outOfRange(int promise, String words, int least, int greatest, Indexed use) {
        Check.sentence(promise, "Throws `IllegalArgumentException` if " + words);
        for (int bad : new int[] {least - 1, greatest + 1, Integer.MAX_VALUE, Integer.MIN_VALUE}) {
            refused("the number " + bad, Check.ARGUMENT, r -> use.answer(r, bad));
        }
        answers(least, use);
        answers(greatest, use);
    }

    private static void answers(int number, Indexed use) {
        String got = "an answer";
        try {
            use.answer(States.busy(), number);
        } catch (RuntimeException e) {
            got = e.getClass().getName();
        }
        Check.due("the number " + number, got, "an answer");
    }

    private static void indexesOfQuestions() {
        noSuch(9, "cell", 4, (r, i) -> r.cell(i, 0));
        noSuch(10, "cell", 4, (r, i) -> r.worn(i));
        noSuch(11, "cell", 4, (r, i) -> r.capacity(i));
        noSuch(12, "cell or layer", 4, (r, i) -> r.layer(i, 0, 0));
        noSuch(12, "cell or layer", 2, (r, i) -> r.layer(0, i, 0));
        noSuch(13, "core", 3, (r, i) -> r.core(i, 0));
        noSuch(14, "load", 2, (r, i) -> r.load(i, 0));
        noSuch(15, "cell", 4, (r, i) -> r.base(i));
        noSuch(16, "load or cell", 2, (r, i) -> r.baseOf(i, 0));
        noSuch(16, "load or cell", 4, (r, i) -> r.baseOf(0, i));
        noSuch(17, "cell", 4, (r, i) -> r.heaviest(i));
        noSuch(18, "cell", 4, (r, i) -> r.units(i));
        noSuch(19, "cell", 4, (r, i) -> r.failsBy(i));
        noSuch(20, "cell", 4, (r, i) -> r.yearsLeft(i));
        noSuch(21, "index", 4, (r, i) -> r.nthCell(i));
        noSuch(22, "lane", 2, (r, i) -> r.laneYears(i));
        noSuch(23, "lane", 2, (r, i) -> r.firstFailing(i));
        noSuch(25, "cell", 4, (r, i) -> r.rutIn(i, 1));
        noSuch(26, "cell", 4, (r, i) -> r.wornIn(i, 1));
        noSuch(27, "load", 2, (r, i) -> r.countIn(i, 1));
        noSuch(28, "cell", 4, (r, i) -> r.yearsWith(i, 0));
        noSuch(29, "lane", 2, (r, i) -> r.yearsIfClosed(i, 0));
        noSuch(29, "lane", 2, (r, i) -> r.yearsIfClosed(0, i));
        noSuch(32, "core", 3, (r, i) -> r.discardTells(i));
        for (int kind = RoadWear.FILL; kind <= RoadWear.REBUILD; kind++) {
            int patch = kind;
            noSuch(34, "cell", 4, (r, i) -> r.cost(patch, i, 10));
            noSuch(35, "cell", 4, (r, i) -> r.whyNot(patch, i, 10));
            noSuch(36, "cell", 4, (r, i) -> r.yearsBehind(patch, i, 10));
        }
        noSuch(37, "cell", 4, (r, i) -> r.cheapest(i, 1));
        noSuch(39, "lane", 2, (r, i) -> r.meanRut(i));
        noSuch(40, "cell", 4, (r, i) -> r.wornShare(i));
    }

    private static void indexesOfChanges() {
        // cells 0, 1 and 3 have a core, so that cell 2 alone may be drilled
        Check.sentence(42, "Throws `IndexOutOfBoundsException` if there is no such cell");
        for (int bad : new int[] {-1, 4, Integer.MAX_VALUE, Integer.MIN_VALUE}) {
            refused("cell " + bad, Check.INDEX, r -> r.drill(bad, 0, 1));
        }
        noSuch(43, "core", 3, (r, i) -> r.addLayer(i, 0, 1));
        noSuch(44, "core", 3, (r, i) -> r.discard(i));
        noSuch(45, "cell", 4, (r, i) -> r.measure(i, 0));
        noSuch(46, "lane or station", 2, (r, i) -> r.addLoad(i, 0, 0, 1, 0, 0));
        noSuch(46, "lane or station", 2, (r, i) -> r.addLoad(0, i, 1, 1, 0, 0));
        noSuch(46, "lane or station", 2, (r, i) -> r.addLoad(0, 0, i, 1, 0, 0));
        noSuch(47, "load", 2, (r, i) -> r.removeLoad(i));
        noSuch(48, "load", 2, (r, i) -> r.setCount(i, 0));
        noSuch(49, "lane", 2, (r, i) -> r.close(i, true));
        noSuch(50, "cell", 4, (r, i) -> r.patch(RoadWear.FILL, i, 0));
        noSuch(50, "cell", 4, (r, i) -> r.patch(RoadWear.OVERLAY, i, 10));
        noSuch(50, "cell", 4, (r, i) -> r.patch(RoadWear.REBUILD, i, 0));
        noSuch(54, "cell", 4, (r, i) -> r.printCell(i));
        noSuch(55, "lane", 2, (r, i) -> r.printLane(i));
    }

    private static void argumentsOfQuestions() {
        outOfRange(7, "what is out of range", 0, 13, (r, n) -> r.count(n));
        outOfRange(8, "what is out of range", 0, 5, (r, n) -> r.setting(n));
        outOfRange(9, "what is out of range", 0, 8, (r, n) -> r.cell(3, n));
        outOfRange(12, "what is out of range", 0, 1, (r, n) -> r.layer(3, 1, n));
        outOfRange(13, "what is out of range", 0, 2, (r, n) -> r.core(2, n));
        outOfRange(14, "what is out of range", 0, 6, (r, n) -> r.load(1, n));
        outOfRange(24, "years is out of range", 1, 60, (r, n) -> r.failing(n));
        outOfRange(25, "years is out of range", 1, 60, (r, n) -> r.rutIn(3, n));
        outOfRange(26, "years is out of range", 1, 60, (r, n) -> r.wornIn(3, n));
        outOfRange(27, "years is out of range", 1, 60, (r, n) -> r.countIn(1, n));
        outOfRange(28, "percent is out of range", 0, 900, (r, n) -> r.yearsWith(3, n));
        String patches = "kind is out of range, or mm of an overlay";
        outOfRange(34, patches, 1, 3, (r, n) -> r.cost(n, 3, 10));
        outOfRange(34, patches, 10, 100, (r, n) -> r.cost(RoadWear.OVERLAY, 3, n));
        outOfRange(35, patches, 1, 3, (r, n) -> r.whyNot(n, 3, 10));
        outOfRange(35, patches, 10, 100, (r, n) -> r.whyNot(RoadWear.OVERLAY, 3, n));
        outOfRange(36, patches, 1, 3, (r, n) -> r.yearsBehind(n, 3, 10));
        outOfRange(36, patches, 10, 100, (r, n) -> r.yearsBehind(RoadWear.OVERLAY, 3, n));
        outOfRange(37, "years is out of range", 1, 60, (r, n) -> r.cheapest(3, n));
        outOfRange(38, "years is out of range", 1, 60, (r, n) -> r.planCost(n));
    }

    private static void argumentsOfChanges() {
        outOfRange(41, "years is out of range", 1, 60, (r, n) -> r.pass(n));
        outOfRange(42, "kind or mm is out of range", 0, 3, (r, n) -> r.drill(2, n, 1));
        outOfRange(42, "kind or mm is out of range", 1, 500, (r, n) -> r.drill(2, 0, n));
        outOfRange(43, "kind or mm is out of range", 0, 3, (r, n) -> r.addLayer(2, n, 1));
        outOfRange(43, "kind or mm is out of range", 1, 500, (r, n) -> r.addLayer(2, 0, n));
        outOfRange(45, "rut is out of range", 0, 9999, (r, n) -> r.measure(3, n));
        String loads = "last is less than first, or weight, count or growth is out of range";
        outOfRange(46, loads, 1, 30, (r, n) -> r.addLoad(1, 0, 1, n, 0, 0));
        outOfRange(46, loads, 0, 999999, (r, n) -> r.addLoad(1, 0, 1, 1, n, 0));
        outOfRange(46, loads, 0, 20, (r, n) -> r.addLoad(1, 0, 1, 1, 0, n));
        refused("last less than first", Check.ARGUMENT, r -> r.addLoad(0, 1, 0, 1, 0, 0));
        outOfRange(48, "count is out of range", 0, 999999, (r, n) -> r.setCount(1, n));
        String patches = "kind is out of range, or mm of an overlay";
        outOfRange(50, patches, 1, 3, (r, n) -> r.patch(n, 3, 10));
        outOfRange(50, patches, 10, 100, (r, n) -> r.patch(RoadWear.OVERLAY, 3, n));
        outOfRange(51, "what or value is out of range", 0, 5, (r, n) -> r.set(n, 10));
        int[][] ranges = {{1, 999}, {10, 999}, {1, 9999}, {0, 999}, {0, 999}, {0, 9999}};
        for (int index = 0; index < ranges.length; index++) {
            int what = index;
            outOfRange(51, "what or value is out of range", ranges[what][0], ranges[what][1], (r, n) -> r.set(what, n));
        }
        outOfRange(52, "money is out of range", 1, 999999, (r, n) -> r.give(n));
    }

    private static void states() {
        Check.sentence(0, "A method that throws changes nothing");
        refused("an index", Check.INDEX, r -> r.measure(4, 0));
        refused("an argument", Check.ARGUMENT, r -> r.measure(3, -1));
        Check.sentence(31, "Throws `NoSuchElementException` if there are no cells");
        refused("no weakest cell", Check.NOTHING, RoadWear::new, RoadWear::weakest);
        Check.sentence(41, "Throws `IllegalStateException` if there are no cells, or the year would be greater than 500");
        refused("no cells", Check.STATE, RoadWear::new, r -> r.pass(1));
        refused("a year too many", Check.STATE, States::old, r -> r.pass(1));
        refused("60 years too many", Check.STATE, States::old, r -> r.pass(60));
        Check.sentence(42, "Throws `IllegalStateException` if there is a core at this cell, or there are 12");
        refused("a core twice", Check.STATE, r -> r.drill(0, 0, 1));
        refused("a 13th core", Check.STATE, States::full, r -> r.drill(15, 0, 1));
        refused("a 13th core at the cell of another one", Check.STATE, States::full, r -> r.drill(11, 0, 1));
        Check.sentence(43, "Throws `IllegalStateException` if it has 4 layers");
        refused("a fifth layer", Check.STATE, States::full, r -> r.addLayer(0, 0, 1));
        Check.sentence(46, "Throws `IllegalStateException` if there are 10 loads");
        refused("an 11th load", Check.STATE, States::full, r -> r.addLoad(0, 0, 0, 1, 0, 0));
        Check.sentence(53, "Throws `IllegalStateException` if there is none");
        refused("nothing to undo", Check.STATE, () -> Check.road("road 1 1;"), RoadWear::undo);
        refused("nothing to undo at first", Check.STATE, RoadWear::new, RoadWear::undo);
        Check.sentence(59, "Throws `IllegalStateException` if no state is saved");
        refused("nothing saved", Check.STATE, States::full, RoadWear::restoreState);
        refused("nothing saved at first", Check.STATE, RoadWear::new, RoadWear::restoreState);
    }

    private static void order() {
        Check.sentence(0, "If several exceptions apply to a call, the one that is listed first is thrown");
        refused("cell", Check.INDEX, r -> r.cell(4, 9));
        refused("layer: cell and what", Check.INDEX, r -> r.layer(4, 0, 2));
        refused("layer: layer and what", Check.INDEX, r -> r.layer(0, 4, 2));
        refused("layer: cell and layer", Check.INDEX, r -> r.layer(-1, -1, 0));
        refused("core", Check.INDEX, r -> r.core(3, 3));
        refused("load", Check.INDEX, r -> r.load(2, 7));
        refused("rutIn", Check.INDEX, r -> r.rutIn(4, 0));
        refused("wornIn", Check.INDEX, r -> r.wornIn(4, 61));
        refused("countIn", Check.INDEX, r -> r.countIn(2, 61));
        refused("yearsWith", Check.INDEX, r -> r.yearsWith(4, -1));
        refused("cheapest", Check.INDEX, r -> r.cheapest(4, 0));
        for (int kind : new int[] {0, 2, 4}) {
            refused("cost", Check.INDEX, r -> r.cost(kind, 4, 9));
            refused("whyNot", Check.INDEX, r -> r.whyNot(kind, 4, 101));
            refused("yearsBehind", Check.INDEX, r -> r.yearsBehind(kind, -1, 9));
            refused("patch", Check.INDEX, r -> r.patch(kind, 4, 9));
        }
        refused("drill: cell and kind", Check.INDEX, r -> r.drill(4, 4, 0));
        refused("drill: mm and a core there", Check.ARGUMENT, r -> r.drill(0, 0, 0));
        refused("drill: kind and a core there", Check.ARGUMENT, r -> r.drill(0, 4, 1));
        refused("addLayer", Check.INDEX, r -> r.addLayer(3, 4, 0));
        refused("measure", Check.INDEX, r -> r.measure(4, -1));
        refused("addLoad: lane and weight", Check.INDEX, r -> r.addLoad(2, 0, 0, 0, -1, 21));
        refused("addLoad: a station and weight", Check.INDEX, r -> r.addLoad(0, 2, 2, 31, 0, 0));
        refused("addLoad: a last one that there is not and that is less", Check.INDEX,
                r -> r.addLoad(0, 1, -1, 1, 0, 0));
        refused("addLoad: a first one that there is not and that is greater", Check.INDEX,
                r -> r.addLoad(0, 2, 1, 1, 0, 0));
        refused("setCount", Check.INDEX, r -> r.setCount(2, -1));
    }

    private static void orderAtLimits() {
        Check.sentence(0, "If several exceptions apply to a call, the one that is listed first is thrown");
        refused("drill: cell", Check.INDEX, States::full, r -> r.drill(16, 0, 1));
        refused("drill: kind", Check.ARGUMENT, States::full, r -> r.drill(15, 4, 1));
        refused("drill: mm", Check.ARGUMENT, States::full, r -> r.drill(15, 0, 501));
        refused("addLayer: core", Check.INDEX, States::full, r -> r.addLayer(12, 4, 0));
        refused("addLayer: kind", Check.ARGUMENT, States::full, r -> r.addLayer(0, 4, 1));
        refused("addLayer: mm", Check.ARGUMENT, States::full, r -> r.addLayer(0, 0, 0));
        refused("addLoad: lane", Check.INDEX, States::full, r -> r.addLoad(1, 0, 0, 1, 0, 0));
        refused("addLoad: first", Check.INDEX, States::full, r -> r.addLoad(0, 16, 16, 1, 0, 0));
        refused("addLoad: last", Check.INDEX, States::full, r -> r.addLoad(0, 0, 16, 1, 0, 0));
        refused("addLoad: last less than first", Check.ARGUMENT, States::full, r -> r.addLoad(0, 1, 0, 1, 0, 0));
        refused("addLoad: weight", Check.ARGUMENT, States::full, r -> r.addLoad(0, 0, 0, 31, 0, 0));
        refused("addLoad: count", Check.ARGUMENT, States::full, r -> r.addLoad(0, 0, 0, 1, -1, 0));
        refused("addLoad: growth", Check.ARGUMENT, States::full, r -> r.addLoad(0, 0, 0, 1, 0, 21));
        refused("pass: years", Check.ARGUMENT, States::old, r -> r.pass(61));
        refused("pass: years", Check.ARGUMENT, States::old, r -> r.pass(0));
        refused("pass: years", Check.ARGUMENT, RoadWear::new, r -> r.pass(0));
        refused("pass: years", Check.ARGUMENT, RoadWear::new, r -> r.pass(61));
    }

    /** A new object has neither cells nor cores nor loads nor lanes. */
    private static void withoutCells() {
        Check.sentence(1, "Creates a road without stations and lanes, with no loads and cores");
        Use[] uses = {r -> r.cell(0, 9), r -> r.worn(0), r -> r.capacity(0), r -> r.layer(0, 0, 2), r -> r.core(0, 3),
            r -> r.load(0, 7), r -> r.base(0), r -> r.baseOf(0, 0), r -> r.heaviest(0), r -> r.units(0),
            r -> r.failsBy(0), r -> r.yearsLeft(0), r -> r.nthCell(0), r -> r.laneYears(0), r -> r.firstFailing(0),
            r -> r.rutIn(0, 0), r -> r.wornIn(0, 0), r -> r.countIn(0, 0), r -> r.yearsWith(0, -1),
            r -> r.yearsIfClosed(0, 0), r -> r.discardTells(0), r -> r.cost(0, 0, 0), r -> r.whyNot(0, 0, 0),
            r -> r.yearsBehind(0, 0, 0), r -> r.cheapest(0, 0), r -> r.meanRut(0), r -> r.wornShare(0),
            r -> r.drill(0, 4, 0), r -> r.addLayer(0, 4, 0), r -> r.discard(0), r -> r.measure(0, -1),
            r -> r.addLoad(0, 0, 0, 0, -1, 21), r -> r.removeLoad(0), r -> r.setCount(0, -1), r -> r.close(0, true),
            r -> r.patch(0, 0, 0), r -> r.printCell(0), r -> r.printLane(0)};
        for (int index = 0; index < uses.length; index++) {
            refused("use " + index + " of a new object", Check.INDEX, RoadWear::new, uses[index]);
        }
    }

    /** A change, which differs from what was, and is undone by one call. */
    private static void change(int promise, String words, Use use) {
        Check.sentence(promise, words);
        RoadWear road = States.small();
        use.answer(road);
        Check.due("changes", road.count(13), 4);
        Check.due("something is different", States.told(road).equals(States.told(States.small())), false);
        RoadWear undone = States.small();
        use.answer(undone);
        Check.due("undo", undone.undo(), 3);
        Check.due("the state behind undo", States.told(undone), States.told(States.small()));
    }

    private static void changes() {
        change(41, "Lets years pass. This is a change", r -> r.pass(60));
        change(42, "Drills a core, with one layer. This is a change", r -> r.drill(1, 3, 500));
        change(43, "Adds a layer below the others of a core. This is a change", r -> r.addLayer(0, 2, 500));
        change(44, "Discards a core. This is a change", r -> r.discard(0));
        change(45, "Sets the rut of a cell as it was measured. This is a change", r -> r.measure(3, 9999));
        change(46, "Adds a load. This is a change", r -> r.addLoad(1, 0, 1, 30, 999999, 20));
        change(47, "those behind it get numbers that are 1 less. This is a change", r -> r.removeLoad(0));
        change(48, "Sets the count of a load. This is a change", r -> r.setCount(1, 0));
        change(49, "Closes a lane, or opens it. This is a change", r -> r.close(1, false));
        change(49, "Closes a lane, or opens it. This is a change", r -> r.close(0, true));
        change(50, "This is a change, if it is not refused", r -> r.patch(RoadWear.FILL, 0, 0));
        change(50, "This is a change, if it is not refused", r -> r.patch(RoadWear.OVERLAY, 0, 100));
        change(50, "This is a change, if it is not refused", r -> r.patch(RoadWear.REBUILD, 0, 0));
        for (int what = 0; what < 6; what++) {
            int setting = what;
            change(51, "Sets a setting. This is a change", r -> r.set(setting, 999));
        }
        change(52, "Gives money. This is a change", r -> r.give(999999));
    }

    private static void refusedPatches() {
        Check.sentence(50, "This is a change, if it is not refused");
        Road poor = () -> {
            RoadWear road = States.full();
            road.patch(RoadWear.OVERLAY, 0, 100);
            road.patch(RoadWear.OVERLAY, 0, 100);
            road.patch(RoadWear.OVERLAY, 0, 100);
            road.patch(RoadWear.REBUILD, 1, 0);
            road.set(5, 9999);
            return road;
        };
        quiet("no money", poor, r -> r.patch(RoadWear.REBUILD, 2, 0));
        quiet("no rut", poor, r -> r.patch(RoadWear.FILL, 0, 0));
        quiet("an overlay of 310 mm", poor, r -> r.patch(RoadWear.OVERLAY, 0, 10));
        quiet("a rebuilt cell", () -> {
            RoadWear road = poor.make();
            road.set(5, 0);
            return road;
        }, r -> r.patch(RoadWear.REBUILD, 1, 0));
        RoadWear road = poor.make();
        Check.due("no money", road.patch(RoadWear.REBUILD, 2, 0), -1);
        Check.due("no rut", road.patch(RoadWear.FILL, 0, 0), -2);
        Check.due("an overlay of 310 mm", road.patch(RoadWear.OVERLAY, 0, 10), -3);
        road.set(5, 0);
        Check.due("a rebuilt cell", road.patch(RoadWear.REBUILD, 1, 0), -4);
    }
}
