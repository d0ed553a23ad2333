/** The greatest road: 64 cells, 12 cores of 4 layers, 10 loads. Every call is made at its last numbers. */
public final class FullTest {
    public static void main(String[] args) {
        questions();
        changes();
        Check.finish("FullTest");
    }

    private static RoadWear full() {
        StringBuilder text = new StringBuilder("road 16 4;");
        for (int load = 0; load < 10; load++) {
            text.append("load ").append(load % 4).append(" 0 15 10 ").append(10 + load).append(";");
        }
        for (int core = 0; core < 12; core++) {
            text.append("core ").append(15 - core).append(" ").append(core / 4 + 1).append(" sand 9;");
        }
        RoadWear road = Check.road(text.toString());
        for (int core = 0; core < 12; core++) {
            road.addLayer(core, 1, 100 + core);
            road.addLayer(core, 2, 200 + core);
            road.addLayer(core, 0, 300 + core);
        }
        return road;
    }

    private static void questions() {
        RoadWear road = full();
        Check.promise(7);
        Check.due("cells", road.count(2), 64);
        Check.due("cores", road.count(3), 12);
        Check.due("loads", road.count(4), 10);
        Check.due("failing", road.count(10), 0);
        Check.promise(9);
        Check.due("station", road.cell(63, 0), 15);
        Check.due("lane", road.cell(63, 1), 3);
        Check.promise(12);
        // core 3 at the station 15 of lane 1 is 6 from there, the others of the lanes 2 and 3 7 or more
        Check.due("layer", road.layer(63, 3, 1), 303);
        Check.promise(13);
        Check.due("core 11", road.core(11, 0), 48 + 7);
        int sum = 0;
        for (int core = 0; core < 12; core++) {
            sum += road.core(core, 2);
        }
        Check.due("all cells have a core", sum, 64);
        Check.promise(15);
        Check.due("base", road.base(63), 30L);
        Check.due("base", road.base(16), 11L + 15 + 19);
        Check.promise(16);
        Check.due("baseOf", road.baseOf(9, 31), 19L);
        Check.promise(17);
        Check.due("heaviest", road.heaviest(31), 9);
        Check.promise(20);
        Check.due("yearsLeft", road.yearsLeft(63), RoadWear.NONE);
        Check.promise(21);
        Check.due("nthCell", road.nthCell(63) >= 0, true);
        Check.due("the weakest one is first", road.nthCell(0), road.weakest());
        Check.promise(22);
        Check.due("laneYears", road.laneYears(3), RoadWear.NONE);
        Check.promise(23);
        Check.due("firstFailing", road.firstFailing(3), RoadWear.NONE);
        Check.promise(24);
        Check.due("failing", road.failing(60), 0);
        Check.promise(26);
        Check.due("wornIn", road.wornIn(63, 60), 1800L);
        Check.promise(27);
        Check.due("countIn", road.countIn(9, 60), 19);
        Check.promise(29);
        Check.due("yearsIfClosed", road.yearsIfClosed(3, 2), RoadWear.NONE);
        Check.promise(30);
        Check.due("safestClosing", road.safestClosing(), 0);
        Check.promise(32);
        Check.due("discardTells", road.discardTells(11) > 0, true);
        Check.promise(33);
        Check.due("nextCore", road.nextCore() >= 0, true);
        Check.promise(38);
        Check.due("planCost", road.planCost(60), 0);
        Check.promise(39);
        Check.due("meanRut", road.meanRut(3), 0.0);
        Check.promise(54);
        road.printCell(63);
        Check.due("printCell", Check.output(road), "s9+b103+g203+a303");
        Check.promise(55);
        Check.due("printLane", road.printLane(3), 31);
    }

    private static void changes() {
        RoadWear road = full();
        Check.promise(41);
        Check.due("pass", road.pass(60), 0);
        Check.due("worn", road.worn(63), 1800L);
        Check.promise(44);
        for (int core : new int[] {11, 0, 5}) {
            int before = road.count(3);
            int next = core < before - 1 ? road.core(core + 1, 0) : RoadWear.NONE;
            int last = road.core(before - 1, 0);
            Check.due("discard", road.discard(core), before - 1);
            if (next != RoadWear.NONE) {
                Check.due("the next one comes there", road.core(core, 0), next);
                Check.due("the last one stays the last", road.core(before - 2, 0), last);
            }
            Check.due("with its layers", road.core(before - 2, 1), 4);
        }
        Check.promise(47);
        for (int load : new int[] {9, 0, 4}) {
            int before = road.count(4);
            int next = load < before - 1 ? road.load(load + 1, 4) : 0;
            Check.due("removeLoad", road.removeLoad(load), before - 1);
            if (next != 0) {
                Check.due("the next one comes there", road.load(load, 4), next);
            }
        }
        Check.due("the last one", road.load(6, 4), 18);
        Check.promise(49);
        Check.due("close", road.close(3, true), false);
        Check.due("its loads are on lane 2", road.load(2, 6), 2);
        Check.promise(50);
        Check.due("patch", road.patch(RoadWear.REBUILD, 63, 0), 100);
        Check.promise(9);
        Check.due("rebuilt", road.cell(63, 4), 1);
        Check.due("not rebuilt", road.cell(31, 4), 0);
        Check.promise(53);
        for (int left = 7; left >= 0; left--) {
            Check.due("undo", road.undo(), left);
        }
        Check.due("cores", road.count(3), 12);
        Check.due("loads", road.count(4), 10);
        Check.due("the year", road.count(5), 60);
    }
}
