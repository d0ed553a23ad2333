/** Roads in which much has happened, and all that can be asked of a road as one text, so that two can be compared. */
final class States {
    private States() {
    }

    /**
     * Ten changes of which eight are kept, a state that was saved between them, an error, an output and an input
     * buffer that is not empty: whatever is lost of it is seen.
     */
    static RoadWear busy() {
        RoadWear road = Check.road("road 2 2;core 0 0 sand 100;core 1 1 asphalt 50 gravel 60;design asphalt 20 sand 15;"
                + "load 0 0 1 10 100 grows 5;load 1 1 1 20 90;rut 1 0 40;life 9;money 5000;");
        Check.load(road, "road 1 1;soft 0;");
        road.give(7);
        road.saveState();
        road.pass(2);
        road.drill(1, 0, 30);
        road.measure(0, 33);
        road.close(0, true);
        road.patch(RoadWear.FILL, 1, 0);
        road.patch(RoadWear.OVERLAY, 3, 20);
        road.patch(RoadWear.REBUILD, 2, 0);
        road.set(0, 11);
        road.addLayer(0, 1, 9);
        road.printCell(3);
        Check.append(road, "road 1 1;");
        return road;
    }

    /** With three changes, so that there is room for more, and a saved state. */
    static RoadWear small() {
        RoadWear road = Check.road("road 2 2;core 0 0 sand 100;core 1 1 asphalt 50 gravel 60;design asphalt 20 sand 15;"
                + "load 0 0 1 10 100 grows 5;load 1 1 1 20 90;rut 1 0 40;rut 0 0 9;life 9;");
        road.pass(1);
        road.saveState();
        road.close(1, true);
        road.patch(RoadWear.OVERLAY, 3, 20);
        return road;
    }

    /** As many cores, layers and loads as there may be. */
    static RoadWear full() {
        StringBuilder text = new StringBuilder("road 16 1;core 0 0 sand 1 sand 2 sand 3 sand 4;");
        for (int core = 1; core < 12; core++) {
            text.append("core ").append(core).append(" 0 sand 9;");
        }
        for (int load = 0; load < 10; load++) {
            text.append("load 0 0 ").append(load).append(" 10 1;");
        }
        RoadWear road = Check.road(text.toString());
        for (int time = 0; time < 9; time++) {
            road.give(1);
        }
        return road;
    }

    /** In the year 500. */
    static RoadWear old() {
        RoadWear road = Check.road("road 2 2;load 0 0 0 10 1;load 1 0 1 10 2 grows 1;");
        for (int time = 0; time < 10; time++) {
            road.pass(50);
        }
        return road;
    }

    /** Everything; the road is of no use afterwards. At most some 480 calls, as an object has 512. */
    static String all(RoadWear road) {
        return input(road) + " " + error(road) + " " + Check.output(road) + " " + told(road);
    }

    static String error(RoadWear road) {
        return "error " + road.errorCode() + " at " + road.errorOffset();
    }

    /** How long the input buffer is, of which no more than 20 bytes are thought. */
    private static String input(RoadWear road) {
        int length = 20;
        while (!road.truncateInput(length)) {
            length--;
        }
        return "input " + length;
    }

    /** Everything but the input buffer, the error and the output. */
    static String told(RoadWear road) {
        StringBuilder text = new StringBuilder();
        for (int what = 0; what < 14; what++) {
            text.append(road.count(what)).append(' ');
        }
        for (int what = 0; what < 6; what++) {
            text.append(road.setting(what)).append(' ');
        }
        for (int cell = 0; cell < Math.min(4, road.count(2)); cell++) {
            tellCell(road, cell, text);
        }
        for (int core = 0; core < Math.min(3, road.count(3)); core++) {
            text.append(" core ").append(road.core(core, 0)).append(' ').append(road.core(core, 1));
            text.append(' ').append(road.core(core, 2));
        }
        for (int load = 0; load < Math.min(3, road.count(4)); load++) {
            text.append(" load");
            for (int what = 0; what < 7; what++) {
                text.append(' ').append(road.load(load, what));
            }
        }
        tellEarlier(road, text);
        return text.toString();
    }

    private static void tellCell(RoadWear road, int cell, StringBuilder text) {
        text.append(" cell");
        for (int what = 0; what < 9; what++) {
            text.append(' ').append(road.cell(cell, what));
        }
        for (int layer = 0; layer < road.cell(cell, 6); layer++) {
            text.append(' ').append(road.layer(cell, layer, 0)).append('/').append(road.layer(cell, layer, 1));
        }
        text.append(' ').append(road.worn(cell)).append(' ').append(road.capacity(cell));
        text.append(' ').append(road.base(cell)).append(' ').append(road.units(cell));
        text.append(' ').append(road.failsBy(cell)).append(' ').append(road.yearsLeft(cell));
    }

    /** What undo and restoreState lead back to. */
    private static void tellEarlier(RoadWear road, StringBuilder text) {
        for (int changes = road.count(13); changes > 0; changes--) {
            text.append(" undo ").append(road.undo());
            tellShortly(road, text);
        }
        try {
            text.append(" restore ").append(road.restoreState());
            tellShortly(road, text);
        } catch (IllegalStateException e) {
            text.append(" nothing saved");
        }
    }

    private static void tellShortly(RoadWear road, StringBuilder text) {
        for (int what = 3; what < 13; what++) {
            if (what != 10) {
                text.append(' ').append(road.count(what));
            }
        }
        text.append(' ').append(road.setting(0));
        for (int cell = 0; cell < Math.min(4, road.count(2)); cell++) {
            text.append(' ').append(road.cell(cell, 2)).append(' ').append(road.cell(cell, 3));
            text.append(' ').append(road.cell(cell, 5)).append(' ').append(road.worn(cell));
        }
    }
}
