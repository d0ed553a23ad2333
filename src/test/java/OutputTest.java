/** Promises 54 to 57: the output. */
public final class OutputTest {
    public static void main(String[] args) {
        printCell();
        printLane();
        printLoads();
        outputByte();
        Check.finish("OutputTest");
    }

    private static void printed(RoadWear road, String text, int length) {
        Check.due("the output", Check.output(road), text);
        Check.due("its length", length, text.length());
    }

    private static void printCell() {
        Check.promise(54);
        RoadWear road = Check.road("road 2 2;core 0 0 asphalt 1 binder 20 gravel 300 sand 500;core 1 1 sand 10 sand 9;");
        printed(road, "a1+b20+g300+s500", road.printCell(0));
        printed(road, "s10+s9", road.printCell(3));
        road.patch(RoadWear.OVERLAY, 0, 10);
        printed(road, "a1+b20+g300+s500-10", road.printCell(0));
        road.patch(RoadWear.OVERLAY, 0, 100);
        printed(road, "a1+b20+g300+s500-110", road.printCell(0));
        road.patch(RoadWear.REBUILD, 0, 0);
        printed(road, "a100+g200*", road.printCell(0));
        road.patch(RoadWear.OVERLAY, 0, 57);
        printed(road, "a100+g200-57*", road.printCell(0));
        Check.throwing("cell", Check.INDEX, () -> road.printCell(4));
        Check.throwing("cell", Check.INDEX, () -> road.printCell(-1));
        printed(road, "a100+g200-57*", 13);
    }

    private static void printLane() {
        Check.promise(55);
        RoadWear road = Check.road("road 4 2;design asphalt 20 sand 15;load 0 0 1 10 100;load 1 1 1 10 2000;"
                + "rut 3 0 150;life 10;");
        printed(road, "10 10 # 0", road.printLane(0));
        printed(road, "# 1 # #", road.printLane(1));
        Check.throwing("lane", Check.INDEX, () -> road.printLane(2));
        Check.throwing("lane", Check.INDEX, () -> road.printLane(-1));
        printed(road, "# 1 # #", 7);
        RoadWear slow = Check.road("road 1 1;design asphalt 20 sand 15;load 0 0 0 10 10;soft 1;life 6;");
        printed(slow, "60", slow.printLane(0));
    }

    private static void printLoads() {
        Check.promise(56);
        RoadWear road = Check.road("road 16 2;load 0 0 15 30 999999 grows 20;load 1 3 3 1 0;load 1 2 10 9 50 grows 2;");
        printed(road, "0:0-15x30*999999+20 1:3-3x1*0 1:2-10x9*50+2", road.printLoads());
        road.pass(1);
        road.close(0, true);
        printed(road, "0:0-15x30*999999+20 1:3-3x1*0 1:2-10x9*51+2", road.printLoads());
        road.removeLoad(0);
        printed(road, "1:3-3x1*0 1:2-10x9*51+2", road.printLoads());
        road.removeLoad(0);
        road.removeLoad(0);
        printed(road, "-", road.printLoads());
        int[] counts = {0, 1, 9, 10, 99, 100, 999, 1000, 9999, 10000, 99999, 100000, 100001, 700001, 999999, 123456};
        RoadWear one = Check.road("road 1 1;load 0 0 0 1 0;");
        for (int count : counts) {
            one.setCount(0, count);
            printed(one, "0:0-0x1*" + count, one.printLoads());
        }
        RoadWear full = Check.road("road 16 1;");
        StringBuilder text = new StringBuilder();
        for (int load = 0; load < 10; load++) {
            full.addLoad(0, 10, 15, 30, 999999, 20);
            text.append(load > 0 ? " " : "").append("0:10-15x30*999999+20");
        }
        printed(full, text.toString(), full.printLoads());
        RoadWear bare = new RoadWear();
        printed(bare, "-", bare.printLoads());
    }

    private static void outputByte() {
        Check.promise(57);
        RoadWear road = Check.road("road 1 1;");
        Check.due("nothing yet", road.outputByte(0), -1);
        road.printCell(0);
        Check.due("the first one", road.outputByte(0), (int) 'a');
        Check.due("the last one", road.outputByte(8), (int) '0');
        Check.due("behind", road.outputByte(9), -1);
        Check.due("-1", road.outputByte(-1), -1);
        Check.due("MAX", road.outputByte(Integer.MAX_VALUE), -1);
        Check.due("MIN", road.outputByte(Integer.MIN_VALUE), -1);
        road.printLoads();
        Check.due("in place of what it had", road.outputByte(1), -1);
    }
}
