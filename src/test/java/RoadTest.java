/** Promises 7 to 14, 31 to 33, 39 and 40: the road as it stands. */
public final class RoadTest {
    /**
     * Strengths: 45 by core 0 (2200 + 1500 + 840), 8 by core 1, 10 by the DESIGN. Cell 2 lies 2 from core 0 and 4 from
     * core 1; cell 6 lies 1 from core 1 and 5 from core 0.
     */
    private static final String TEXT = "road 4 2;core 3 1 sand 100;core 0 0 asphalt 50 binder 50 gravel 60;"
            + "design asphalt 20 sand 15;load 1 1 3 20 500 grows 3;load 0 0 2 10 100;rut 1 1 40;rut 2 1 7;life 3;";

    public static void main(String[] args) {
        counts();
        settings();
        cells();
        wearAndCapacity();
        layers();
        cores();
        loads();
        weakest();
        discardTells();
        nextCore();
        shares();
        Check.finish("RoadTest");
    }

    private static void counts() {
        Check.promise(7);
        RoadWear road = Check.road(TEXT + "money 700;build 50;fill 2;");
        int[] counts = {4, 2, 8, 2, 2, 0, 700, 0, 0, 0, 0, 0, 0, 0};
        for (int what = 0; what < counts.length; what++) {
            Check.due("count(" + what + ")", road.count(what), counts[what]);
        }
        road.patch(RoadWear.FILL, 5, 0);
        road.patch(RoadWear.OVERLAY, 0, 30);
        road.patch(RoadWear.REBUILD, 1, 0);
        road.patch(RoadWear.REBUILD, 2, 0);
        road.close(0, true);
        road.measure(7, 150);
        road.measure(6, 149);
        int[] later = {4, 2, 8, 2, 2, 0, 577, 8, 15, 100, 1, 1, 2, 7};
        for (int what = 0; what < later.length; what++) {
            Check.due("count(" + what + ") later", road.count(what), later[what]);
        }
        road.pass(7);
        Check.due("year", road.count(5), 7);
        Check.throwing("count(-1)", Check.ARGUMENT, () -> road.count(-1));
        Check.throwing("count(14)", Check.ARGUMENT, () -> road.count(14));
    }

    private static void settings() {
        Check.promise(8);
        RoadWear road = Check.road("road 1 1;soft 2;limit 33;life 4;fill 5;over 6;build 7;money 8;");
        int[] settings = {2, 33, 4, 5, 6, 7};
        for (int what = 0; what < settings.length; what++) {
            Check.due("setting(" + what + ")", road.setting(what), settings[what]);
        }
        Check.throwing("setting(-1)", Check.ARGUMENT, () -> road.setting(-1));
        Check.throwing("setting(6)", Check.ARGUMENT, () -> road.setting(6));
    }

    private static void cells() {
        Check.promise(9);
        RoadWear road = Check.road(TEXT);
        int[] cores = {0, 0, 0, 0, 0, 1, 1, 1};
        int[] distances = {0, 1, 2, 3, 3, 2, 1, 0};
        int[] ruts = {0, 0, 0, 0, 0, 40, 7, 0};
        for (int cell = 0; cell < 8; cell++) {
            Check.due("station", road.cell(cell, 0), cell % 4);
            Check.due("lane", road.cell(cell, 1), cell / 4);
            Check.due("rut", road.cell(cell, 2), ruts[cell]);
            Check.due("overlay", road.cell(cell, 3), 0);
            Check.due("rebuilt", road.cell(cell, 4), 0);
            Check.due("strength of " + cell, road.cell(cell, 5), cores[cell] == 0 ? 45 : 8);
            Check.due("layers", road.cell(cell, 6), cores[cell] == 0 ? 3 : 1);
            Check.due("core of " + cell, road.cell(cell, 7), cores[cell]);
            Check.due("distance of " + cell, road.cell(cell, 8), distances[cell]);
        }
        road.patch(RoadWear.REBUILD, 0, 0);
        road.patch(RoadWear.OVERLAY, 0, 100);
        int[] rebuilt = {0, 0, 0, 100, 1, 54, 2, -1, -1};
        for (int what = 0; what < rebuilt.length; what++) {
            Check.due("cell(0, " + what + ")", road.cell(0, what), rebuilt[what]);
        }
        Check.due("a core of a rebuilt cell still tells", road.cell(1, 7), 0);
        Check.throwing("cell -1", Check.INDEX, () -> road.cell(-1, 9));
        Check.throwing("cell 8", Check.INDEX, () -> road.cell(8, 0));
        Check.throwing("what -1", Check.ARGUMENT, () -> road.cell(0, -1));
        Check.throwing("what 9", Check.ARGUMENT, () -> road.cell(7, 9));
        RoadWear narrow = Check.road("road 1 4;core 0 3 sand 1;");
        for (int lane = 0; lane < 4; lane++) {
            Check.due("one station", narrow.cell(lane, 0), 0);
            Check.due("its lane", narrow.cell(lane, 1), lane);
            Check.due("its distance", narrow.cell(lane, 8), 9 - 3 * lane);
        }
        RoadWear weak = Check.road("road 1 1;core 0 0 sand 12;");
        Check.due("strength is at least 1", weak.cell(0, 5), 1);
        RoadWear strong = Check.road("road 1 1;design asphalt 500 asphalt 500 asphalt 500 asphalt 500;money 9999;");
        strong.patch(RoadWear.OVERLAY, 0, 99);
        Check.due("the sum is divided at once", strong.cell(0, 5), 923);
        RoadWear bare = Check.road("road 2 1;");
        Check.due("without cores", bare.cell(1, 7), RoadWear.NONE);
        Check.due("without cores", bare.cell(1, 8), RoadWear.NONE);
        RoadWear tie = Check.road("road 7 3;core 6 0 sand 50;core 0 2 sand 60;core 0 0 sand 70;");
        Check.due("core 0 on a tie", tie.cell(3, 7), 0);
        Check.due("core 2 is nearer by its lane", tie.cell(14 + 5, 7), 2);
        Check.due("a lane counts 3", tie.cell(14 + 5, 8), 5);
        Check.due("core 0 on a tie of lanes", tie.cell(7, 7), 0);
    }

    private static void wearAndCapacity() {
        RoadWear road = Check.road(TEXT);
        Check.promise(10);
        Check.due("worn", road.worn(5), 0L);
        road.pass(1);
        Check.due("worn with a rut", road.worn(5), 8320L);
        Check.due("worn without a rut", road.worn(7), 8000L);
        Check.due("worn without a load", road.worn(4), 0L);
        Check.throwing("worn", Check.INDEX, () -> road.worn(8));
        Check.throwing("worn", Check.INDEX, () -> road.worn(-1));
        Check.promise(11);
        Check.due("capacity", road.capacity(0), 6075L);
        Check.due("capacity", road.capacity(7), 192L);
        road.set(2, 9999);
        Check.due("capacity", road.capacity(0), 20247975L);
        Check.throwing("capacity", Check.INDEX, () -> road.capacity(8));
        Check.throwing("capacity", Check.INDEX, () -> road.capacity(-1));
        RoadWear strong = Check.road("road 1 1;design asphalt 500 asphalt 500 asphalt 500 asphalt 500;life 9999;");
        Check.due("a capacity beyond 31 bits", strong.capacity(0), 7743225600L);
    }

    private static void layers() {
        Check.promise(12);
        RoadWear road = Check.road(TEXT);
        int[] kinds = {0, 1, 2};
        int[] thicknesses = {50, 50, 60};
        for (int layer = 0; layer < 3; layer++) {
            int index = layer;
            Check.due("kind", road.layer(3, layer, 0), kinds[layer]);
            Check.due("thickness", road.layer(3, layer, 1), thicknesses[layer]);
            Check.throwing("what 2", Check.ARGUMENT, () -> road.layer(3, index, 2));
            Check.throwing("what -1", Check.ARGUMENT, () -> road.layer(3, index, -1));
        }
        Check.due("kind", road.layer(7, 0, 0), 3);
        Check.throwing("layer 3", Check.INDEX, () -> road.layer(3, 3, 0));
        Check.throwing("layer 1", Check.INDEX, () -> road.layer(7, 1, 5));
        Check.throwing("layer -1", Check.INDEX, () -> road.layer(7, -1, 0));
        Check.throwing("cell 8", Check.INDEX, () -> road.layer(8, 0, 0));
        Check.throwing("cell -1", Check.INDEX, () -> road.layer(-1, 0, 0));
        road.patch(RoadWear.OVERLAY, 7, 50);
        Check.throwing("an overlay is none", Check.INDEX, () -> road.layer(7, 1, 0));
        road.patch(RoadWear.REBUILD, 7, 0);
        Check.due("of the DESIGN", road.layer(7, 1, 1), 15);
    }

    private static void cores() {
        Check.promise(13);
        RoadWear road = Check.road(TEXT);
        int[][] cores = {{0, 3, 5}, {7, 1, 3}};
        for (int core = 0; core < 2; core++) {
            for (int what = 0; what < 3; what++) {
                Check.due("core(" + core + ", " + what + ")", road.core(core, what), cores[core][what]);
            }
        }
        road.patch(RoadWear.REBUILD, 7, 0);
        road.patch(RoadWear.REBUILD, 6, 0);
        Check.due("cells without rebuilt ones", road.core(1, 2), 1);
        Check.throwing("core 2", Check.INDEX, () -> road.core(2, 0));
        Check.throwing("core -1", Check.INDEX, () -> road.core(-1, 3));
        Check.throwing("what 3", Check.ARGUMENT, () -> road.core(0, 3));
        Check.throwing("what -1", Check.ARGUMENT, () -> road.core(0, -1));
    }

    private static void loads() {
        Check.promise(14);
        RoadWear road = Check.road(TEXT);
        int[] first = {1, 1, 3, 20, 500, 3, 1};
        int[] second = {0, 0, 2, 10, 100, 0, 0};
        for (int what = 0; what < 7; what++) {
            Check.due("load(0, " + what + ")", road.load(0, what), first[what]);
            Check.due("load(1, " + what + ")", road.load(1, what), second[what]);
        }
        road.pass(2);
        Check.due("its count as it is now", road.load(0, 4), 530);
        road.close(1, true);
        Check.due("its own lane", road.load(0, 0), 1);
        Check.due("its lane now", road.load(0, 6), 0);
        road.close(0, true);
        Check.due("no lane", road.load(0, 6), RoadWear.NONE);
        RoadWear wide = Check.road("road 1 4;load 1 0 0 1 1;load 2 0 0 1 1;load 3 0 0 1 1;load 0 0 0 1 1;");
        wide.close(1, true);
        Check.due("the smaller lane on a tie", wide.load(0, 6), 0);
        wide.close(2, true);
        Check.due("the nearest lane", wide.load(1, 6), 3);
        wide.close(3, true);
        Check.due("the nearest lane", wide.load(2, 6), 0);
        wide.close(3, false);
        wide.close(0, true);
        Check.due("the nearest lane", wide.load(3, 6), 3);
        Check.due("the nearest lane", wide.load(0, 6), 3);
        Check.throwing("load 2", Check.INDEX, () -> road.load(2, 0));
        Check.throwing("load -1", Check.INDEX, () -> road.load(-1, 7));
        Check.throwing("what 7", Check.ARGUMENT, () -> road.load(0, 7));
        Check.throwing("what -1", Check.ARGUMENT, () -> road.load(0, -1));
    }

    private static void weakest() {
        Check.promise(31);
        RoadWear road = Check.road(TEXT);
        Check.due("the smallest one on a tie", road.weakest(), 5);
        road.patch(RoadWear.OVERLAY, 5, 10);
        Check.due("by an overlay", road.weakest(), 6);
        road.patch(RoadWear.REBUILD, 6, 0);
        Check.due("by the DESIGN", road.weakest(), 7);
        road.discard(0);
        road.addLayer(0, 0, 10);
        road.patch(RoadWear.REBUILD, 1, 0);
        Check.due("the rebuilt ones", road.weakest(), 1);
        Check.due("the first one", Check.road("road 2 2;core 0 0 sand 13;core 1 0 sand 99;").weakest(), 0);
        Check.throwing("no cells", java.util.NoSuchElementException.class, () -> new RoadWear().weakest());
    }

    private static void discardTells() {
        Check.promise(32);
        RoadWear road = Check.road(TEXT);
        Check.due("5 cells from 45 to 8", road.discardTells(0), 185);
        Check.due("3 cells from 8 to 45", road.discardTells(1), 111);
        road.patch(RoadWear.REBUILD, 7, 0);
        Check.due("2 cells", road.discardTells(1), 74);
        road.discard(0);
        Check.due("the DESIGN without cores: 7 cells from 8 to 10", road.discardTells(0), 14);
        Check.due("it stays", road.count(3), 1);
        Check.throwing("core 1", Check.INDEX, () -> road.discardTells(1));
        Check.throwing("core -1", Check.INDEX, () -> road.discardTells(-1));
        RoadWear mixed = Check.road("road 4 1;core 0 0 sand 100;core 2 0 asphalt 25;core 3 0 sand 50;");
        // cells 1 and 2: the nearest of the others are core 0 for cell 1 as before, core 2 for cell 2
        Check.due("strengths are apart", mixed.discardTells(1), 7);
        Check.due("strengths are apart", mixed.discardTells(0), 6);
    }

    private static void nextCore() {
        Check.promise(33);
        RoadWear road = Check.road(TEXT);
        Check.due("the smallest one on a tie", road.nextCore(), 3);
        road.patch(RoadWear.REBUILD, 3, 0);
        Check.due("not a rebuilt one", road.nextCore(), 4);
        road.drill(4, 0, 1);
        Check.due("2 far", road.nextCore(), 2);
        Check.due("1 far", Check.road("road 2 1;core 0 0 sand 1;").nextCore(), 1);
        RoadWear bare = Check.road("road 2 1;money 9999;");
        Check.due("without cores", bare.nextCore(), 0);
        bare.patch(RoadWear.REBUILD, 0, 0);
        Check.due("without cores", bare.nextCore(), 1);
        bare.drill(1, 0, 1);
        Check.due("rebuilt or with a core", bare.nextCore(), RoadWear.NONE);
        bare.discard(0);
        bare.patch(RoadWear.REBUILD, 1, 0);
        Check.due("all are rebuilt", bare.nextCore(), RoadWear.NONE);
        RoadWear two = Check.road("road 1 2;core 0 0 sand 1;core 0 1 sand 1;");
        Check.due("all have a core", two.nextCore(), RoadWear.NONE);
    }

    private static void shares() {
        Check.promise(39);
        RoadWear road = Check.road("road 3 2;rut 0 0 1;rut 1 0 3;rut 2 1 9999;rut 1 1 9999;rut 0 1 9998;"
                + "load 1 0 2 10 1000;");
        Check.due("meanRut(0)", road.meanRut(0), 4.0 / 3.0);
        Check.due("meanRut(1)", road.meanRut(1), 29996.0 / 3.0);
        Check.due("one station", Check.road("road 1 2;rut 0 1 7;").meanRut(1), 7.0);
        Check.throwing("lane 2", Check.INDEX, () -> road.meanRut(2));
        Check.throwing("lane -1", Check.INDEX, () -> road.meanRut(-1));
        Check.promise(40);
        Check.due("wornShare", road.wornShare(3), 0.0f);
        road.pass(1);
        // 1000 * 10998 / 1000 units of 72 * 72 * 100
        Check.due("wornShare", road.wornShare(3), 10998f / 518400f);
        road.set(2, 1);
        Check.due("more than the whole", road.wornShare(3), 10998f / 5184f);
        Check.due("nothing", road.wornShare(0), 0.0f);
        Check.throwing("cell 6", Check.INDEX, () -> road.wornShare(6));
        Check.throwing("cell -1", Check.INDEX, () -> road.wornShare(-1));
        RoadWear heavy = Check.road("road 1 1;load 0 0 0 30 999999;rut 0 0 9999;design sand 500;life 7;");
        heavy.pass(2);
        // floats of the numbers, not of their exact quotient: 40 * 40 * 7 is the capacity
        Check.due("floats", heavy.wornShare(0), (float) heavy.worn(0) / 11200f);
        Check.due("80999919 * 10999 / 1000, twice", heavy.worn(0), 2 * 890918109L);
    }
}
