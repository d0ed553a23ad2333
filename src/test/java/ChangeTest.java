/** Promises 41 to 49, 51 to 53, 58 and 59: changes, undoing them, and the saved state. */
public final class ChangeTest {
    private static final String TEXT = "road 3 2;design asphalt 20 sand 15;load 0 0 1 10 100;";

    public static void main(String[] args) {
        pass();
        drill();
        addLayer();
        discard();
        measure();
        addLoad();
        removeLoad();
        setCount();
        close();
        set();
        give();
        undo();
        undoEach();
        undoEight();
        savedState();
        Check.finish("ChangeTest");
    }

    private static void pass() {
        Check.promise(41);
        RoadWear road = Check.road("road 3 2;design asphalt 20 sand 15;load 0 0 1 10 100 grows 20;load 1 0 0 9 1;"
                + "rut 0 1 150;life 2;");
        Check.due("one fails", road.pass(1), 1);
        Check.due("year", road.count(5), 1);
        Check.due("count", road.load(0, 4), 120);
        Check.due("rut", road.cell(0, 2), 10);
        Check.due("worn", road.worn(0), 100L);
        Check.due("no load", road.cell(2, 2), 0);
        // 120 * 1010 / 1000 = 121, a rut of 12; 221 are worn of 200
        Check.due("three fail", road.pass(1), 3);
        Check.due("rut", road.cell(1, 2), 22);
        Check.due("worn", road.worn(1), 221L);
        Check.due("count", road.load(0, 4), 144);
        road.close(0, true);
        road.close(1, true);
        Check.due("all closed", road.pass(2), 3);
        Check.due("counts grow all the same", road.load(0, 4), 206);
        Check.due("nothing wears", road.worn(1), 221L);
        Check.due("year", road.count(5), 4);
        Check.throwing("0", Check.ARGUMENT, () -> road.pass(0));
        Check.throwing("61", Check.ARGUMENT, () -> road.pass(61));
        Check.throwing("no cells", Check.STATE, () -> new RoadWear().pass(60));
        Check.throwing("no cells, years are looked at first", Check.ARGUMENT, () -> new RoadWear().pass(61));
        RoadWear old = Check.road(TEXT);
        for (int time = 0; time < 8; time++) {
            old.pass(60);
        }
        Check.throwing("501", Check.STATE, () -> old.pass(21));
        Check.due("nothing passed", old.count(5), 480);
        Check.due("9999 at most", old.cell(0, 2), 9999);
        old.pass(20);
        Check.due("500", old.count(5), 500);
        Check.throwing("501", Check.STATE, () -> old.pass(1));
        RoadWear one = Check.road(TEXT);
        RoadWear other = Check.road(TEXT);
        one.pass(7);
        for (int time = 0; time < 7; time++) {
            other.pass(1);
        }
        Check.due("seven years at once or one by one", one.worn(0), other.worn(0));
        Check.due("100 .. 106", one.worn(0), 721L);
    }

    private static void drill() {
        Check.promise(42);
        RoadWear road = Check.road(TEXT);
        Check.due("the first one", road.drill(2, 3, 100), 0);
        Check.due("the second one", road.drill(5, 2, 100), 1);
        Check.due("between them", road.drill(3, 1, 100), 1);
        Check.due("ahead of them", road.drill(0, 0, 500), 0);
        int[] cells = {0, 2, 3, 5};
        int[] kinds = {0, 3, 1, 2};
        for (int core = 0; core < 4; core++) {
            Check.due("cell", road.core(core, 0), cells[core]);
            Check.due("layers", road.core(core, 1), 1);
            Check.due("kind", road.layer(cells[core], 0, 0), kinds[core]);
        }
        Check.due("thickness", road.layer(0, 0, 1), 500);
        Check.due("strength", road.cell(0, 5), 220);
        Check.throwing("cell", Check.INDEX, () -> road.drill(6, 4, 0));
        Check.throwing("cell", Check.INDEX, () -> road.drill(-1, 0, 1));
        Check.throwing("kind", Check.ARGUMENT, () -> road.drill(0, 4, 1));
        Check.throwing("kind", Check.ARGUMENT, () -> road.drill(1, -1, 1));
        Check.throwing("mm", Check.ARGUMENT, () -> road.drill(0, 0, 0));
        Check.throwing("mm", Check.ARGUMENT, () -> road.drill(1, 0, 501));
        Check.throwing("there is one", Check.STATE, () -> road.drill(0, 0, 1));
        RoadWear full = Check.road("road 16 1;design asphalt 1 sand 2 sand 3 gravel 4;");
        for (int cell = 15; cell >= 4; cell--) {
            Check.due("ahead of all", full.drill(cell, 0, cell), 0);
        }
        Check.throwing("12", Check.STATE, () -> full.drill(0, 0, 1));
        Check.due("no change", full.count(13), 8);
        Check.due("the last core", full.core(11, 0), 15);
        Check.due("its layer", full.layer(15, 0, 1), 15);
        full.give(999);
        full.patch(RoadWear.REBUILD, 0, 0);
        Check.due("the DESIGN", full.layer(0, 3, 1), 4);
    }

    private static void addLayer() {
        Check.promise(43);
        RoadWear road = Check.road(TEXT + "core 0 0 sand 10;core 1 0 asphalt 1;");
        Check.due("the second one", road.addLayer(0, 1, 20), 2);
        Check.due("the third one", road.addLayer(0, 0, 500), 3);
        Check.due("the fourth one", road.addLayer(0, 3, 1), 4);
        int[] kinds = {3, 1, 0, 3};
        int[] thicknesses = {10, 20, 500, 1};
        for (int layer = 0; layer < 4; layer++) {
            Check.due("kind", road.layer(0, layer, 0), kinds[layer]);
            Check.due("thickness", road.layer(0, layer, 1), thicknesses[layer]);
        }
        Check.due("the other core stays", road.layer(1, 0, 1), 1);
        Check.throwing("core", Check.INDEX, () -> road.addLayer(2, 4, 0));
        Check.throwing("core", Check.INDEX, () -> road.addLayer(-1, 0, 1));
        Check.throwing("kind", Check.ARGUMENT, () -> road.addLayer(0, 4, 1));
        Check.throwing("kind", Check.ARGUMENT, () -> road.addLayer(0, -1, 1));
        Check.throwing("mm", Check.ARGUMENT, () -> road.addLayer(0, 0, 0));
        Check.throwing("mm", Check.ARGUMENT, () -> road.addLayer(1, 0, 501));
        Check.throwing("4 layers", Check.STATE, () -> road.addLayer(0, 0, 1));
        Check.due("changes", road.count(13), 3);
    }

    private static void discard() {
        Check.promise(44);
        RoadWear road = Check.road(TEXT + "core 0 0 sand 100;core 1 0 asphalt 100 sand 7;core 2 1 gravel 100;");
        Check.due("two are left", road.discard(1), 2);
        Check.due("core 0", road.core(0, 0), 0);
        Check.due("core 1", road.core(1, 0), 5);
        Check.due("strength of cell 1", road.cell(1, 5), 8);
        Check.due("strength of cell 5", road.cell(5, 5), 14);
        Check.due("one is left", road.discard(0), 1);
        Check.due("strength of cell 0", road.cell(0, 5), 14);
        Check.due("none is left", road.discard(0), 0);
        Check.due("the DESIGN", road.cell(0, 5), 10);
        Check.throwing("core 0", Check.INDEX, () -> road.discard(0));
        Check.throwing("core -1", Check.INDEX, () -> road.discard(-1));
    }

    private static void measure() {
        Check.promise(45);
        RoadWear road = Check.road(TEXT + "rut 1 1 8;");
        Check.due("before", road.measure(4, 9999), 8);
        Check.due("before", road.measure(4, 0), 9999);
        Check.due("rut", road.cell(4, 2), 0);
        Check.due("the same again is a change", road.measure(4, 0), 0);
        Check.due("changes", road.count(13), 3);
        Check.throwing("cell", Check.INDEX, () -> road.measure(6, -1));
        Check.throwing("cell", Check.INDEX, () -> road.measure(-1, 0));
        Check.throwing("rut", Check.ARGUMENT, () -> road.measure(0, -1));
        Check.throwing("rut", Check.ARGUMENT, () -> road.measure(0, 10000));
    }

    private static void addLoad() {
        Check.promise(46);
        RoadWear road = Check.road(TEXT);
        Check.due("its number", road.addLoad(1, 0, 2, 30, 999999, 20), 1);
        int[] numbers = {1, 0, 2, 30, 999999, 20, 1};
        for (int what = 0; what < numbers.length; what++) {
            Check.due("load(1, " + what + ")", road.load(1, what), numbers[what]);
        }
        int[][] places = {{2, 0, 0}, {-1, 0, 0}, {0, 3, 3}, {0, -1, 0}, {0, 0, 3}, {0, 0, -1}, {0, 2, -1}};
        for (int[] a : places) {
            Check.throwing("place", Check.INDEX, () -> road.addLoad(a[0], a[1], a[2], 0, -1, 21));
        }
        int[][] wrong = {{2, 1, 1, 0, 0}, {0, 0, 0, 0, 0}, {0, 0, 31, 0, 0}, {0, 0, 1, -1, 0}, {0, 0, 1, 1000000, 0},
                {0, 0, 1, 0, -1}, {0, 0, 1, 0, 21}};
        for (int[] a : wrong) {
            Check.throwing("arguments", Check.ARGUMENT, () -> road.addLoad(0, a[0], a[1], a[2], a[3], a[4]));
        }
        for (int load = 2; load < 10; load++) {
            Check.due("its number", road.addLoad(0, 1, 1, 1, 0, 0), load);
        }
        Check.throwing("10 loads", Check.STATE, () -> road.addLoad(0, 0, 0, 1, 0, 0));
        Check.throwing("10 loads, arguments are looked at first", Check.ARGUMENT, () -> road.addLoad(0, 0, 0, 0, 0, 0));
        Check.due("loads", road.count(4), 10);
    }

    private static void removeLoad() {
        Check.promise(47);
        RoadWear road = Check.road(TEXT + "load 1 0 0 11 1 grows 1;load 1 1 1 12 2 grows 2;");
        Check.due("two are left", road.removeLoad(1), 2);
        int[] numbers = {1, 1, 1, 12, 2, 2, 1};
        for (int what = 0; what < numbers.length; what++) {
            Check.due("load(1, " + what + ")", road.load(1, what), numbers[what]);
        }
        Check.due("the one ahead stays", road.load(0, 3), 10);
        Check.due("one is left", road.removeLoad(0), 1);
        Check.due("none is left", road.removeLoad(0), 0);
        Check.throwing("load 0", Check.INDEX, () -> road.removeLoad(0));
        Check.throwing("load -1", Check.INDEX, () -> road.removeLoad(-1));
    }

    private static void setCount() {
        Check.promise(48);
        RoadWear road = Check.road(TEXT + "load 1 0 0 1 5 grows 20;");
        Check.due("before", road.setCount(1, 999999), 5);
        road.pass(1);
        Check.due("before", road.setCount(1, 0), 999999);
        Check.due("now", road.load(1, 4), 0);
        Check.due("the other one stays", road.load(0, 4), 100);
        Check.throwing("load", Check.INDEX, () -> road.setCount(2, -1));
        Check.throwing("load", Check.INDEX, () -> road.setCount(-1, 0));
        Check.throwing("count", Check.ARGUMENT, () -> road.setCount(0, -1));
        Check.throwing("count", Check.ARGUMENT, () -> road.setCount(0, 1000000));
    }

    private static void close() {
        Check.promise(49);
        RoadWear road = Check.road("road 2 4;load 1 0 0 10 9;");
        Check.due("before", road.close(1, true), false);
        Check.due("before", road.close(1, true), true);
        Check.due("closed", road.count(11), 1);
        Check.due("where its load is", road.base(0), 9L);
        Check.due("where it was", road.base(2), 0L);
        Check.due("before", road.close(1, false), true);
        Check.due("before", road.close(1, false), false);
        Check.due("closed", road.count(11), 0);
        Check.due("changes", road.count(13), 4);
        Check.throwing("lane", Check.INDEX, () -> road.close(4, true));
        Check.throwing("lane", Check.INDEX, () -> road.close(-1, false));
    }

    private static void set() {
        Check.promise(51);
        RoadWear road = new RoadWear();
        int[] least = {1, 10, 1, 0, 0, 0};
        int[] greatest = {999, 999, 9999, 999, 999, 9999};
        int[] usual = {10, 150, 100, 1, 5, 100};
        for (int index = 0; index < 6; index++) {
            int what = index;
            Check.due("before", road.set(what, least[what]), usual[what]);
            Check.due("before", road.set(what, greatest[what]), least[what]);
            Check.due("now", road.setting(what), greatest[what]);
            Check.throwing("too small", Check.ARGUMENT, () -> road.set(what, least[what] - 1));
            Check.throwing("too great", Check.ARGUMENT, () -> road.set(what, greatest[what] + 1));
        }
        Check.due("changes", road.count(13), 8);
        Check.throwing("what", Check.ARGUMENT, () -> road.set(-1, 10));
        Check.throwing("what", Check.ARGUMENT, () -> road.set(6, 10));
        Check.due("the money stays", road.count(6), 1000);
        RoadWear worn = Check.road(TEXT);
        worn.set(1, 10);
        Check.due("LIMIT", worn.yearsLeft(0), 1);
        worn.set(0, 9);
        Check.due("SOFT", worn.yearsLeft(0), 2);
    }

    private static void give() {
        Check.promise(52);
        RoadWear road = Check.road("road 1 1;money 5;");
        Check.due("money", road.give(1), 6);
        Check.due("money", road.give(999993), 999999);
        Check.due("what is beyond is lost", road.give(999999), 999999);
        Check.due("money", road.count(6), 999999);
        Check.due("changes", road.count(13), 3);
        Check.throwing("0", Check.ARGUMENT, () -> road.give(0));
        Check.throwing("-1", Check.ARGUMENT, () -> road.give(-1));
        Check.throwing("1000000", Check.ARGUMENT, () -> road.give(1000000));
    }

    /** All that can be asked without years, so that two states can be compared. */
    private static String state(RoadWear road) {
        StringBuilder text = new StringBuilder();
        for (int what = 0; what < 13; what++) {
            text.append(road.count(what)).append(' ');
        }
        for (int what = 0; what < 6; what++) {
            text.append(road.setting(what)).append(' ');
        }
        for (int cell = 0; cell < road.count(2); cell++) {
            for (int what = 2; what < 8; what++) {
                text.append(road.cell(cell, what)).append(' ');
            }
            text.append(road.worn(cell)).append(' ');
        }
        for (int core = 0; core < road.count(3); core++) {
            text.append(road.core(core, 0)).append(' ').append(road.core(core, 1)).append(' ');
        }
        for (int load = 0; load < road.count(4); load++) {
            for (int what = 0; what < 7; what++) {
                text.append(road.load(load, what)).append(' ');
            }
        }
        return text.toString();
    }

    private static final int CHANGES = 14;

    private static RoadWear full() {
        return Check.road("road 2 2;core 0 0 sand 5;rut 0 1 40;load 0 0 1 10 100 grows 9;load 1 0 1 20 100 grows 9;");
    }

    private static void change(RoadWear road, int index) {
        switch (index) {
            case 0: road.pass(3); break;
            case 1: road.drill(1, 0, 7); break;
            case 2: road.addLayer(0, 0, 70); break;
            case 3: road.discard(0); break;
            case 4: road.measure(0, 70); break;
            case 5: road.addLoad(0, 0, 0, 1, 1, 1); break;
            case 6: road.removeLoad(0); break;
            case 7: road.setCount(1, 7); break;
            case 8: road.close(0, true); break;
            case 9: road.patch(RoadWear.FILL, 2, 0); break;
            case 10: road.patch(RoadWear.OVERLAY, 1, 10); break;
            case 11: road.patch(RoadWear.REBUILD, 1, 0); break;
            case 12: road.set(2, 7); break;
            default: road.give(7);
        }
    }

    private static void undoEach() {
        Check.promise(53);
        for (int index = 0; index < CHANGES; index++) {
            RoadWear road = full();
            String before = state(road);
            change(road, index);
            Check.due("change " + index + " changes something", state(road).equals(before), false);
            Check.due("change " + index + " can be undone", road.count(13), 1);
            Check.due("undo", road.undo(), 0);
            Check.due("change " + index + " undone", state(road), before);
        }
    }

    private static void undo() {
        Check.promise(53);
        RoadWear road = Check.road(TEXT);
        Check.throwing("nothing to undo", Check.STATE, road::undo);
        Check.append(road, "road 1 1;soft");
        road.printLoads();
        road.give(1);
        road.give(2);
        Check.due("undo", road.undo(), 1);
        Check.due("money", road.count(6), 1001);
        road.give(4);
        Check.due("money", road.count(6), 1005);
        Check.due("one that was undone is kept no more", road.count(13), 2);
        Check.due("undo", road.undo(), 1);
        Check.due("undo", road.undo(), 0);
        Check.due("money", road.count(6), 1000);
        Check.throwing("nothing to undo", Check.STATE, road::undo);
        Check.due("the output stays", Check.output(road), "0:0-1x10*100");
        Check.due("the input stays", road.truncateInput(13), true);
        Check.due("a load with an error", road.loadRoad(), -1);
        road.give(1);
        road.undo();
        Check.due("the error stays", road.errorOffset(), 13);
        RoadWear thrown = Check.road(TEXT);
        thrown.give(7);
        Check.throwing("a method that throws", Check.STATE, () -> {
            for (int time = 0; time < 9; time++) {
                thrown.pass(60);
            }
            return 0;
        });
        Check.due("is no change", thrown.undo(), 7);
        Check.due("the year", thrown.count(5), 420);
    }

    private static void undoEight() {
        Check.promise(53);
        RoadWear road = Check.road(TEXT + "money 0;");
        for (int time = 1; time <= 21; time++) {
            road.give(1);
            Check.due("changes", road.count(13), Math.min(8, time));
        }
        for (int left = 7; left >= 0; left--) {
            Check.due("undo", road.undo(), left);
            Check.due("money", road.count(6), 13 + left);
        }
        Check.throwing("the oldest ones are gone", Check.STATE, road::undo);
        for (int time = 1; time <= 5; time++) {
            road.give(100);
        }
        Check.due("undo", road.undo(), 4);
        Check.due("money", road.count(6), 413);
    }

    private static void savedState() {
        RoadWear road = full();
        Check.promise(59);
        Check.throwing("no state is saved", Check.STATE, road::restoreState);
        Check.promise(58);
        road.pass(2);
        Check.due("the year", road.saveState(), 2);
        Check.due("no change", road.count(13), 1);
        String before = state(road);
        for (int index = 0; index < CHANGES; index++) {
            change(road, index == 3 ? 12 : index);
        }
        Check.promise(59);
        Check.due("the year", road.restoreState(), 2);
        Check.due("all is back", state(road), before);
        Check.due("nothing can be undone", road.count(13), 0);
        Check.throwing("nothing can be undone", Check.STATE, road::undo);
        road.pass(1);
        road.undo();
        road.pass(5);
        Check.due("it stays saved", road.restoreState(), 2);
        Check.due("all is back", state(road), before);
        Check.promise(58);
        road.pass(1);
        Check.due("in place of the earlier one", road.saveState(), 3);
        road.undo();
        Check.due("undo leaves the saved state", road.restoreState(), 3);
        Check.append(road, "road 1 1;soft");
        road.printLoads();
        String output = Check.output(road);
        road.restoreState();
        Check.promise(59);
        Check.due("the output stays", Check.output(road), output);
        Check.due("the input stays", road.truncateInput(13), true);
        road.loadRoad();
        road.restoreState();
        Check.due("the error stays", road.errorOffset(), 13);
        Check.promise(58);
        RoadWear bare = new RoadWear();
        Check.due("also without cells", bare.saveState(), 0);
        bare.set(0, 5);
        Check.promise(59);
        Check.due("also without cells", bare.restoreState(), 0);
        Check.due("SOFT", bare.setting(0), 10);
    }
}
