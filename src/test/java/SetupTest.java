/** Promises 1 to 6: a new object, the input buffer, the setup text and its errors. */
public final class SetupTest {
    public static void main(String[] args) {
        newObject();
        appendInput();
        truncateInput();
        loadRoad();
        loadReplacesAll();
        nothingStaysInTheBuffer();
        errorsChangeNothing();
        syntax();
        outOfRange();
        repeated();
        tooMany();
        firstErrorCounts();
        Check.finish("SetupTest");
    }

    private static void newObject() {
        Check.promise(1);
        RoadWear road = new RoadWear();
        int[] counts = {0, 0, 0, 0, 0, 0, 1000, 0, 0, 0, 0, 0, 0, 0};
        for (int what = 0; what < counts.length; what++) {
            Check.due("count(" + what + ")", road.count(what), counts[what]);
        }
        int[] settings = {10, 150, 100, 1, 5, 100};
        for (int what = 0; what < settings.length; what++) {
            Check.due("setting(" + what + ")", road.setting(what), settings[what]);
        }
        Check.due("errorCode", road.errorCode(), RoadWear.NO_ERROR);
        Check.due("errorOffset", road.errorOffset(), -1);
        Check.due("outputByte(0)", road.outputByte(0), -1);
        Check.due("truncateInput(1)", road.truncateInput(1), false);
        Check.due("nextCore", road.nextCore(), RoadWear.NONE);
        Check.due("safestClosing", road.safestClosing(), RoadWear.NONE);
        Check.due("planCost", road.planCost(60), 0);
        Check.due("failing", road.failing(60), 0);
        Check.throwing("cell", Check.INDEX, () -> road.cell(0, 0));
        Check.throwing("laneYears", Check.INDEX, () -> road.laneYears(0));
        Check.throwing("load", Check.INDEX, () -> road.load(0, 0));
        Check.throwing("core", Check.INDEX, () -> road.core(0, 0));
        Check.throwing("undo", Check.STATE, road::undo);
        Check.throwing("restoreState", Check.STATE, road::restoreState);
        Check.due("give", road.give(1), 1001);
        Check.due("set", road.set(0, 999), 10);
    }

    private static void appendInput() {
        Check.promise(2);
        RoadWear road = new RoadWear();
        // "road", " 1 1", ";  r", "ut 0", " 0 7"
        Check.due("first", road.appendInput(0x726f6164, 0x20312031, 0x3b202072, 0x75742030, 0x20302037), 20);
        Check.due("second", road.appendInput(0x363b2020, 0x20202020, 0x20202020, 0x20202020, 0x0a0a0a0a), 40);
        Check.due("loadRoad", road.loadRoad(), 1);
        Check.due("rut", road.cell(0, 2), 76);
        for (int length = 20; length <= 700; length += 20) {
            Check.due("appendInput", road.appendInput(0x20202020, 0x20202020, 0x20202020, 0x20202020, -1), length);
        }
        Check.due("full", road.appendInput(0, 0, 0, 0, 0), -1);
        Check.due("still 700", road.truncateInput(700), true);
        Check.due("one less", road.truncateInput(681), true);
        Check.due("too long by one", road.appendInput(0, 0, 0, 0, 0), -1);
        Check.due("unchanged", road.truncateInput(682), false);
        Check.due("cut", road.truncateInput(680), true);
        Check.due("fits", road.appendInput(0, 0, 0, 0, 0), 700);
        // the byte 255 in place 16 is met first
        Check.due("loadRoad", road.loadRoad(), -1);
        Check.due("offset", road.errorOffset(), 16);
    }

    private static void truncateInput() {
        Check.promise(3);
        RoadWear road = new RoadWear();
        Check.due("0 of 0", road.truncateInput(0), true);
        Check.append(road, "road 1 1;road");
        Check.due("-1", road.truncateInput(-1), false);
        Check.due("14", road.truncateInput(14), false);
        Check.due("MAX", road.truncateInput(Integer.MAX_VALUE), false);
        Check.due("MIN", road.truncateInput(Integer.MIN_VALUE), false);
        Check.due("13", road.truncateInput(13), true);
        Check.due("9", road.truncateInput(9), true);
        Check.due("10", road.truncateInput(10), false);
        Check.due("loadRoad", road.loadRoad(), 1);
    }

    private static void loadRoad() {
        Check.promise(4);
        RoadWear road = new RoadWear();
        Check.due("1 cell", Check.load(road, "road 1 1;"), 1);
        Check.due("the buffer is empty", road.truncateInput(1), false);
        Check.due("64 cells", Check.load(road, "road 16 4;"), 64);
        Check.due("stations", road.count(0), 16);
        Check.due("lanes", road.count(1), 4);
        Check.due("no blanks", Check.load(road, "road3 2;rut0 1 5;core2 1asphalt5sand6;"), 6);
        Check.due("rut", road.cell(3, 2), 5);
        Check.due("core", road.core(0, 0), 5);
        Check.due("many blanks", Check.load(road, " \n road\n\n 3  2 ; \n"), 6);
        Check.due("leading zeros", Check.load(road, "road 000003 02;limit 000010;"), 6);
        Check.due("LIMIT", road.setting(1), 10);
        String all = "road 3 2;soft 1;limit 999;life 9999;money 999999;fill 0;over 999;build 9999;"
                + "rut 2 1 9999;rut 2 1 7;load 1 0 2 30 999999 grows 20;load 0 1 1 1 0;load 0 0 0 7 8 grows 0;"
                + "core 2 0 sand 1;core 0 0 asphalt 1 binder 2 gravel 3 sand 500;design gravel 9 gravel 8 gravel 7;";
        Check.due("all statements", Check.load(road, all), 6);
        int[] settings = {1, 999, 9999, 0, 999, 9999};
        for (int what = 0; what < 6; what++) {
            Check.due("setting(" + what + ")", road.setting(what), settings[what]);
        }
        Check.due("money", road.count(6), 999999);
        Check.due("the last rut counts", road.cell(5, 2), 7);
        int[] load = {1, 0, 2, 30, 999999, 20, 1};
        int[] second = {0, 1, 1, 1, 0, 0, 0};
        for (int what = 0; what < 7; what++) {
            Check.due("load(0, " + what + ")", road.load(0, what), load[what]);
            Check.due("load(1, " + what + ")", road.load(1, what), second[what]);
        }
        Check.due("growth 0", road.load(2, 5), 0);
        Check.due("loads", road.count(4), 3);
        Check.due("cores", road.count(3), 2);
        Check.due("cores are in the order of cells", road.core(0, 0), 0);
        Check.due("its layers", road.core(0, 1), 4);
        Check.due("the other core", road.core(1, 0), 2);
        for (int layer = 0; layer < 4; layer++) {
            Check.due("kind", road.layer(0, layer, 0), layer);
            Check.due("thickness", road.layer(0, layer, 1), layer < 3 ? layer + 1 : 500);
        }
        Check.due("design is kept", road.discard(0), 1);
        Check.due("design is kept", road.discard(0), 0);
        Check.due("design", road.layer(0, 2, 1), 7);
        Check.due("usual design", Check.load(road, "road 1 1;"), 1);
        Check.due("usual design", road.printCell(0), 9);
        Check.due("usual design", Check.output(road), "a100+g200");
    }

    private static void loadReplacesAll() {
        Check.promise(4);
        RoadWear road = Check.road("road 2 2;load 0 0 1 10 100;core 0 0 sand 1;design sand 9;soft 9;limit 99;life 9;"
                + "money 500;fill 9;over 9;build 9;rut 0 0 55;");
        road.pass(3);
        road.close(1, true);
        road.patch(RoadWear.FILL, 0, 0);
        road.patch(RoadWear.OVERLAY, 1, 10);
        road.patch(RoadWear.REBUILD, 2, 0);
        road.pass(1);
        road.saveState();
        road.printLoads();
        Check.due("loadRoad", Check.load(road, "road 2 1;"), 2);
        int[] counts = {2, 1, 2, 0, 0, 0, 1000, 0, 0, 0, 0, 0, 0, 0};
        for (int what = 0; what < counts.length; what++) {
            Check.due("count(" + what + ")", road.count(what), counts[what]);
        }
        int[] settings = {10, 150, 100, 1, 5, 100};
        for (int what = 0; what < settings.length; what++) {
            Check.due("setting(" + what + ")", road.setting(what), settings[what]);
        }
        for (int cell = 0; cell < 2; cell++) {
            Check.due("rut", road.cell(cell, 2), 0);
            Check.due("overlay", road.cell(cell, 3), 0);
            Check.due("rebuilt", road.cell(cell, 4), 0);
            Check.due("strength", road.cell(cell, 5), 72);
            Check.due("worn", road.worn(cell), 0L);
        }
        Check.throwing("undo", Check.STATE, road::undo);
        Check.throwing("restoreState", Check.STATE, road::restoreState);
        Check.due("the output stays", Check.output(road), "0:0-1x10*100");
    }

    private static void nothingStaysInTheBuffer() {
        Check.promise(4);
        RoadWear road = new RoadWear();
        Check.append(road, "road 1 1;soft 5000;limit 77777;");
        road.truncateInput(15);
        Check.due("cut within a number", road.loadRoad(), -1);
        Check.due("SYNTAX at the end of the text", road.errorCode(), RoadWear.SYNTAX);
        Check.due("offset", road.errorOffset(), 15);
        Check.append(road, "road 1 1;soften");
        road.truncateInput(13);
        Check.due("cut within a word", road.loadRoad(), -1);
        Check.due("offset", road.errorOffset(), 13);
        StringBuilder text = new StringBuilder("road 1 1;");
        while (text.length() < 693) {
            text.append("rut 0 0 0;");
        }
        text.setLength(693);
        String start = text.substring(0, 689);
        for (String end : new String[] {"rut 0 0 9;;", "rut 0 0 98", "          0", "road road", "      rut 0"}) {
            String full = (start + end + "           ").substring(0, 700 - end.length()) + end;
            Check.due("700 bytes", Check.load(road, full), -1);
        }
        Check.due("700 good bytes", Check.load(road, start + "rut 0 0 98;"), 1);
        Check.due("rut", road.cell(0, 2), 98);
        Check.due("the DESIGN may be told again", Check.load(road, "road 1 1;design sand 1;soft 1;"), 1);
        Check.due("the DESIGN may be told again", Check.load(road, "road 1 1;design sand 2;soft 2;"), 1);
        Check.due("without it", Check.load(road, "road 1 1;"), 1);
        Check.due("without it", road.cell(0, 5), 72);
        Check.due("a rut of 0", Check.load(road, "road 1 1;rut 0 0 5;rut 0 0 0;"), 1);
        Check.due("a rut of 0", road.cell(0, 2), 0);
    }

    private static void errorsChangeNothing() {
        Check.promise(4);
        RoadWear road = Check.road("road 2 2;rut 1 1 33;load 0 0 1 10 100;core 1 0 sand 7;");
        road.saveState();
        road.give(1);
        road.printLoads();
        Check.due("an error", Check.load(road, "road 3 3;rut 1 1 44;load 1 1 1 1 1;core 0 0 sand 8;soft 5;soft 6;"), -1);
        Check.due("the buffer is empty", road.truncateInput(1), false);
        Check.due("cells", road.count(2), 4);
        Check.due("rut", road.cell(3, 2), 33);
        Check.due("loads", road.count(4), 1);
        Check.due("core", road.core(0, 0), 1);
        Check.due("SOFT", road.setting(0), 10);
        Check.due("money", road.count(6), 1001);
        Check.due("output", Check.output(road), "0:0-1x10*100");
        Check.due("undo", road.undo(), 0);
        Check.due("restoreState", road.restoreState(), 0);
        Check.due("the error stays", road.errorCode(), RoadWear.REPEATED);
        Check.promise(5);
        Check.due("a good text has no error", Check.load(road, "road 2 2;"), 4);
        Check.due("errorCode", road.errorCode(), RoadWear.NO_ERROR);
        Check.promise(6);
        Check.due("errorOffset", road.errorOffset(), -1);
    }

    private static void error(String text, int code, int offset) {
        RoadWear road = new RoadWear();
        Check.promise(4);
        Check.due(text, Check.load(road, text), -1);
        Check.promise(5);
        Check.due(text, road.errorCode(), code);
        Check.promise(6);
        Check.due(text, road.errorOffset(), offset);
    }

    private static void syntax() {
        int code = RoadWear.SYNTAX;
        error("", code, 0);
        error(" \n ", code, 3);
        error(";", code, 0);
        error("5", code, 0);
        error("roa", code, 0);
        error("roads 1 1;", code, 0);
        error("Road 1 1;", code, 0);
        error("  soft 5;", code, 2);
        error("road", code, 4);
        error("road 1", code, 6);
        error("road 1 1", code, 8);
        error("road 1 1  \n", code, 11);
        error("road 1;", code, 6);
        error("road 1 x;", code, 7);
        error("road 1 1 1;", code, 9);
        error("road 1 1;;", code, 9);
        error("road 1 1;road 1 1;", code, 9);
        error("road 1 1; 7;", code, 10);
        error("road 1 1;grows 1;", code, 9);
        error("road 1 1;asphalt 1;", code, 9);
        error("road 0000001 1;", code, 5);
        error("road 1234567 1;", code, 5);
        error("road 1 1;soft -1;", code, 14);
        error("road 1 1;soft 5\t;", code, 15);
        error("road 1 1;soft 5\r;", code, 15);
        error("road 1 1;é", code, 9);
        error("road 1 1;\0", code, 9);
        error("road 1 1;soft;", code, 13);
        error("road 1 1;softer 5;", code, 9);
        error("road 1 1;soft 5 5;", code, 16);
        error("road 1 1;soft 5 limit 6;", code, 16);
        error("road 1 1;core 0 0;", code, 17);
        error("road 1 1;core 0 0 7;", code, 18);
        error("road 1 1;core 0 0 stone 7;", code, 18);
        error("road 1 1;core 0 0 sand;", code, 22);
        error("road 1 1;core 0 0 sand sand;", code, 23);
        error("road 1 1;core 0 0 sand 1 stone 1;", code, 25);
        error("road 1 1;core 0 0 sand 1 sand 1 sand 1 sand 1 sand 1;", code, 46);
        error("road 1 1;design sand 1 sand 1 sand 1 sand 1 sand 1;", code, 44);
        error("road 1 1;design;", code, 15);
        error("road 1 1;load 0 0 0 1;", code, 21);
        error("road 1 1;load 0 0 0 1 1 2;", code, 24);
        error("road 1 1;load 0 0 0 1 1 grows;", code, 29);
        error("road 1 1;load 0 0 0 1 1 grow 1;", code, 24);
        error("road 1 1;load 0 0 0 1 1 grows 1 grows 1;", code, 32);
        error("road 1 1;load 0 0 0 1 1000000;", code, 22);
        error("road 1 1;load 0 0 0 1 soft 5;", code, 22);
        error("road 1 1;load 0 0 0 soft 5;", code, 20);
        error("road 1 1;load 0 0 soft 5;", code, 18);
        error("road 1 1;load 0 soft 5;", code, 16);
        error("road 1 1;load soft 5;", code, 14);
        error("road 1 1;softz 5;", code, 9);
        error("road 1 1;softa 5;", code, 9);
        error("road 1 1;`", code, 9);
        error("road 1 1;{", code, 9);
        error("road 1 1;limit 11/0;", code, 17);
        error("road 1 1;limit 11:0;", code, 17);
        error("road 1 1;rut 0 0;", code, 16);
        error("road 1 1;rut 0 0 5", code, 18);
    }

    private static void outOfRange() {
        int code = RoadWear.OUT_OF_RANGE;
        error("road 0 1;", code, 5);
        error("road 17 1;", code, 5);
        error("road 1 0;", code, 7);
        error("road 1 5;", code, 7);
        error("road 3 2;core 3 0 sand 1;", code, 14);
        error("road 3 2;core 0 2 sand 1;", code, 16);
        error("road 3 2;core 0 0 sand 0;", code, 23);
        error("road 3 2;core 0 0 sand 501;", code, 23);
        error("road 3 2;design sand 501;", code, 21);
        error("road 3 2;rut 3 0 5;", code, 13);
        error("road 3 2;rut 0 2 5;", code, 15);
        error("road 3 2;rut 0 0 10000;", code, 17);
        error("road 3 2;load 2 0 0 1 1;", code, 14);
        error("road 3 2;load 0 3 3 1 1;", code, 16);
        error("road 3 2;load 0 0 3 1 1;", code, 18);
        error("road 3 2;load 0 2 1 1 1;", code, 18);
        error("road 3 2;load 0 0 0 0 1;", code, 20);
        error("road 3 2;load 0 0 0 31 1;", code, 20);
        error("road 3 2;load 0 0 0 1 1 grows 21;", code, 30);
        String[] words = {"soft", "limit", "life", "money", "fill", "over", "build"};
        int[] least = {1, 10, 1, 0, 0, 0, 0};
        int[] greatest = {999, 999, 9999, 999999, 999, 999, 9999};
        for (int index = 0; index < words.length; index++) {
            String text = "road 1 1;" + words[index] + " ";
            if (least[index] > 0) {
                error(text + (least[index] - 1) + ";", code, text.length());
            }
            if (greatest[index] < 999999) {
                error(text + (greatest[index] + 1) + ";", code, text.length());
            }
            Check.promise(4);
            Check.due(text + least[index], Check.load(new RoadWear(), text + least[index] + ";"), 1);
            Check.due(text + greatest[index], Check.load(new RoadWear(), text + greatest[index] + ";"), 1);
        }
    }

    private static void repeated() {
        int code = RoadWear.REPEATED;
        error("road 3 2;core 1 1 sand 1;core 1 0 sand 1;core 1 1 sand 1;", code, 48);
        error("road 3 2;core 1 1 sand 1;core 1 1;", code, 32);
        error("road 3 2;design sand 1;design sand 1;", code, 23);
        for (String word : new String[] {"soft", "limit", "life", "money", "fill", "over", "build"}) {
            String once = "road 3 2;" + word + " 11;rut 0 0 1;";
            error(once + word + " 11;", code, once.length());
            error(once + word, code, once.length());
        }
        error("road 3 2;core 1 1 sand 1;core 1 2 sand 1;", RoadWear.OUT_OF_RANGE, 32);
    }

    private static void tooMany() {
        int code = RoadWear.TOO_MANY;
        StringBuilder cores = new StringBuilder("road 16 4;");
        StringBuilder loads = new StringBuilder("road 16 4;");
        for (int index = 0; index < 12; index++) {
            cores.append("core ").append(index).append(" 3 sand 1;");
        }
        for (int index = 0; index < 10; index++) {
            loads.append("load 0 0 0 1 1;");
        }
        Check.promise(4);
        Check.due("12 cores", Check.load(new RoadWear(), cores.toString()), 64);
        Check.due("10 loads", Check.load(new RoadWear(), loads.toString()), 64);
        error(cores + "core 12 3 sand 1;", code, cores.length());
        error(cores + " core 0 3 sand 1;", code, cores.length() + 1);
        error(cores + "core", code, cores.length());
        error(loads + "load 0 0 0 1 1;", code, loads.length());
        error(loads + "load;", code, loads.length());
    }

    private static void firstErrorCounts() {
        error("road 1 1;soft 0;limit 1;!", RoadWear.OUT_OF_RANGE, 14);
        error("road 1 1;limit 20;limit 5;soft 0;", RoadWear.REPEATED, 18);
        error("road 1 1;core 0 0 sand 1;core 0 0 sand 0;", RoadWear.REPEATED, 32);
        error("road 1 1;soft 0!;", RoadWear.OUT_OF_RANGE, 14);
        error("road 1 1;soft 1!;soft 0;", RoadWear.SYNTAX, 15);
    }
}
