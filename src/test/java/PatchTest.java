/** Promises 34 to 38 and 50: patches. */
public final class PatchTest {
    /** As in YearsTest: cells 0 and 1 fail in 15 years by their ruts, with LIFE 10 in 10 years by what they have worn. */
    private static final String TEXT = "road 3 2;design asphalt 20 sand 15;load 0 0 1 10 100;";

    public static void main(String[] args) {
        cost();
        whyNot();
        yearsBehind();
        cheapest();
        cheapestTies();
        planCost();
        patch();
        Check.finish("PatchTest");
    }

    private interface Question {
        int answer(RoadWear road, int kind, int cell, int mm);
    }

    private static void wrongInputs(Question question) {
        RoadWear road = Check.road(TEXT);
        int[][] cells = {{1, 6, 0}, {1, -1, 0}, {0, 6, 0}, {2, 6, 9}, {3, Integer.MAX_VALUE, 0}};
        int[][] arguments = {{0, 0, 50}, {4, 0, 50}, {-1, 0, 0}, {2, 0, 9}, {2, 0, 101}, {2, 5, -10}, {2, 0, 0}};
        for (int[] a : cells) {
            Check.throwing("cell " + a[1], Check.INDEX, () -> question.answer(road, a[0], a[1], a[2]));
        }
        for (int[] a : arguments) {
            Check.throwing("kind " + a[0] + ", mm " + a[2], Check.ARGUMENT,
                    () -> question.answer(road, a[0], a[1], a[2]));
        }
        Check.due("nothing changed", road.count(13), 0);
    }

    private static void cost() {
        Check.promise(34);
        RoadWear road = Check.road(TEXT + "fill 3;over 7;build 11;money 0;rut 1 0 1;rut 2 0 10;rut 0 1 11;rut 1 1 9999;");
        int[] fills = {0, 3, 3, 6, 3000, 0};
        for (int cell = 0; cell < 6; cell++) {
            Check.due("a fill of " + cell, road.cost(RoadWear.FILL, cell, -5), fills[cell]);
        }
        Check.due("10 mm", road.cost(RoadWear.OVERLAY, 0, 10), 7);
        Check.due("11 mm", road.cost(RoadWear.OVERLAY, 0, 11), 14);
        Check.due("20 mm", road.cost(RoadWear.OVERLAY, 0, 20), 14);
        Check.due("91 mm", road.cost(RoadWear.OVERLAY, 0, 91), 70);
        Check.due("100 mm", road.cost(RoadWear.OVERLAY, 0, 100), 70);
        Check.due("a rebuild", road.cost(RoadWear.REBUILD, 0, 1000), 11);
        wrongInputs(RoadWear::cost);
    }

    private static void whyNot() {
        Check.promise(35);
        RoadWear road = Check.road(TEXT + "fill 3;over 7;build 11;money 10;rut 1 0 30;rut 2 0 31;");
        Check.due("a fill", road.whyNot(RoadWear.FILL, 1, 0), 0);
        Check.due("not enough money for a fill", road.whyNot(RoadWear.FILL, 2, 0), 1);
        Check.due("no rut", road.whyNot(RoadWear.FILL, 0, 0), 2);
        Check.due("an overlay", road.whyNot(RoadWear.OVERLAY, 0, 10), 0);
        Check.due("not enough money for an overlay", road.whyNot(RoadWear.OVERLAY, 0, 11), 1);
        Check.due("not enough money for a rebuild", road.whyNot(RoadWear.REBUILD, 0, 0), 1);
        road.give(1);
        Check.due("just enough money", road.whyNot(RoadWear.REBUILD, 0, 0), 0);
        road.give(9999);
        road.patch(RoadWear.OVERLAY, 0, 100);
        road.patch(RoadWear.OVERLAY, 0, 100);
        road.patch(RoadWear.OVERLAY, 0, 90);
        Check.due("300 mm", road.whyNot(RoadWear.OVERLAY, 0, 10), 0);
        Check.due("301 mm", road.whyNot(RoadWear.OVERLAY, 0, 11), 3);
        road.patch(RoadWear.REBUILD, 0, 0);
        Check.due("rebuilt", road.whyNot(RoadWear.REBUILD, 0, 0), 4);
        Check.due("rebuilt without a rut", road.whyNot(RoadWear.FILL, 0, 0), 2);
        road.patch(RoadWear.OVERLAY, 0, 10);
        Check.due("rebuilt with an overlay", road.whyNot(RoadWear.REBUILD, 0, 0), 0);
        road.undo();
        road.measure(0, 1);
        Check.due("rebuilt with a rut", road.whyNot(RoadWear.REBUILD, 0, 0), 0);
        road.undo();
        road.pass(1);
        road.measure(0, 0);
        Check.due("rebuilt and worn", road.whyNot(RoadWear.REBUILD, 0, 0), 0);
        Check.due("never rebuilt", road.whyNot(RoadWear.REBUILD, 5, 0), 0);
        RoadWear poor = Check.road("road 1 1;money 0;build 0;over 1;");
        poor.patch(RoadWear.REBUILD, 0, 0);
        Check.due("free, but as new", poor.whyNot(RoadWear.REBUILD, 0, 0), 4);
        poor.set(5, 1);
        Check.due("money comes first", poor.whyNot(RoadWear.REBUILD, 0, 0), 1);
        wrongInputs(RoadWear::whyNot);
    }

    private static void yearsBehind() {
        Check.promise(36);
        RoadWear road = Check.road(TEXT + "money 0;rut 0 0 144;rut 1 1 160;core 0 1 asphalt 20 sand 15;");
        Check.due("as it is", road.yearsLeft(0), 1);
        Check.due("a fill", road.yearsBehind(RoadWear.FILL, 0, 0), 15);
        Check.due("a fill of a cell that fails now", road.yearsBehind(RoadWear.FILL, 4, 0), RoadWear.NONE);
        // strength 14 with 10 mm: 1000 / 196 is 5 in the first 4 years, and so on; by a naive count in ModelTest, too
        Check.due("an overlay lasts longer", road.yearsBehind(RoadWear.OVERLAY, 0, 10) > 15, true);
        Check.due("a rebuild", road.yearsBehind(RoadWear.REBUILD, 0, 0), 15);
        road.set(2, 10);
        Check.due("by what it has worn", road.yearsBehind(RoadWear.FILL, 0, 0), 10);
        road.measure(0, 0);
        road.pass(9);
        Check.due("a fill leaves what it has worn", road.yearsBehind(RoadWear.FILL, 0, 0), 1);
        Check.due("a rebuild does not", road.yearsBehind(RoadWear.REBUILD, 0, 0), 10);
        // strength 54: 29160 of capacity, and no rut from units below 292
        Check.due("a strong overlay", road.yearsBehind(RoadWear.OVERLAY, 0, 100), RoadWear.NONE);
        Check.due("nothing changes", road.yearsLeft(0), 1);
        // ruts of 10, 20 and 30; one more tenth of strength would be 11
        RoadWear bare = Check.road("road 1 1;design asphalt 20 sand 22;load 0 0 0 10 100;limit 21;rut 0 0 5;");
        Check.due("a fill leaves a rut of 0", bare.yearsBehind(RoadWear.FILL, 0, 50), 3);
        Check.due("a rebuild leaves a rut of 0", bare.yearsBehind(RoadWear.REBUILD, 0, 50), 3);
        RoadWear worn = Check.road("road 1 1;design asphalt 20 sand 22;load 0 0 0 10 100;soft 1;life 1;");
        worn.pass(1);
        Check.due("a rebuild leaves nothing worn", worn.yearsBehind(RoadWear.REBUILD, 0, 0), 1);
        Check.due("a fill does", worn.yearsBehind(RoadWear.FILL, 0, 0), 0);
        worn.setCount(0, 99);
        Check.due("a rebuild leaves nothing worn", worn.yearsBehind(RoadWear.REBUILD, 0, 0), 2);
        RoadWear thick = Check.road("road 1 1;design sand 13;load 0 0 0 10 4000;life 1;soft 1;");
        thick.patch(RoadWear.OVERLAY, 0, 100);
        thick.patch(RoadWear.OVERLAY, 0, 100);
        thick.patch(RoadWear.OVERLAY, 0, 100);
        // (13 * 8 + 300 * 44) / 100 = 133: 17689; with 400 mm 177: 31329
        Check.due("300 mm", thick.yearsLeft(0), 5);
        Check.due("400 mm", thick.yearsBehind(RoadWear.OVERLAY, 0, 100), 8);
        wrongInputs(RoadWear::yearsBehind);
    }

    private static void cheapest() {
        Check.promise(37);
        RoadWear road = Check.road(TEXT + "money 0;rut 0 0 100;rut 0 1 150;rut 1 1 149;over 100;");
        Check.due("no load", road.cheapest(2, 60), 0);
        Check.due("years left are more", road.cheapest(1, 14), 0);
        // cell 1 fails in 15 years: a fill of its rut of 0 is refused
        Check.due("not within 15 years", road.cheapest(1, 15), 3000 - 990);
        Check.due("a fill", road.cheapest(3, 60), 1000);
        Check.due("not failing at all", road.cheapest(4, 60), 0);
        Check.due("years left of cell 0", road.yearsLeft(0), 5);
        Check.due("4 years", road.cheapest(0, 4), 0);
        Check.due("5 years", road.cheapest(0, 5), 1000);
        Check.due("14 years", road.cheapest(0, 14), 1000);
        Check.due("an overlay from there on", road.cheapest(0, 15), 2010);
        road.set(5, 99);
        Check.due("a rebuild is cheaper, but no better than a fill", road.cheapest(0, 15), 2010);
        road.set(2, 10);
        Check.due("stronger by far for 60 years", road.cheapest(1, 60) > 2010, true);
        Check.throwing("cell", Check.INDEX, () -> road.cheapest(6, 0));
        Check.throwing("cell", Check.INDEX, () -> road.cheapest(-1, 1));
        Check.throwing("years", Check.ARGUMENT, () -> road.cheapest(0, 0));
        Check.throwing("years", Check.ARGUMENT, () -> road.cheapest(0, 61));
        RoadWear lost = Check.road("road 1 1;load 0 0 0 30 999999;design sand 10;");
        Check.due("no patch helps", lost.cheapest(0, 60), RoadWear.NONE);
    }

    private static void cheapestTies() {
        Check.promise(37);
        String text = "road 1 1;design asphalt 20 sand 15;load 0 0 0 10 100;rut 0 0 150;money 0;";
        RoadWear same = Check.road(text + "fill 1;over 15;build 15;");
        Check.due("the smallest number of as cheap ones", same.cheapest(0, 10), 1000);
        Check.due("an overlay ahead of a rebuild", same.cheapest(0, 15), 2010);
        RoadWear free = Check.road(text + "fill 9;over 0;build 0;");
        Check.due("free ones", free.cheapest(0, 10), 2010);
        RoadWear rebuild = Check.road(text + "fill 9;over 9;build 0;");
        Check.due("a rebuild", rebuild.cheapest(0, 10), 3000);
        RoadWear full = Check.road("road 1 1;design asphalt 20 sand 15;load 0 0 0 10 100;life 1;soft 1;build 999;");
        full.patch(RoadWear.OVERLAY, 0, 100);
        full.patch(RoadWear.OVERLAY, 0, 100);
        full.patch(RoadWear.OVERLAY, 0, 95);
        // 139: 19321 of capacity; with no more than 300 mm there is no overlay of 10 mm, whatever it would help
        full.pass(60);
        full.give(999999);
        full.setCount(0, 20000);
        Check.due("it fails in a year", full.yearsLeft(0), 1);
        Check.due("an overlay beyond 300 mm is refused", full.cheapest(0, 1), RoadWear.NONE);
        Check.due("though it would help", full.yearsBehind(RoadWear.OVERLAY, 0, 100) > 1, true);
        // 2025 with 100 mm, 2401 with 110
        RoadWear thin = Check.road("road 1 1;design sand 13;load 0 0 0 10 2100;life 1;soft 1;");
        Check.due("100 mm don't do", thin.yearsBehind(RoadWear.OVERLAY, 0, 100), 1);
        Check.due("no more than 100 mm", thin.cheapest(0, 1), RoadWear.NONE);
        thin.setCount(0, 2000);
        Check.due("100 mm do", thin.cheapest(0, 1), 2100);
        thin.setCount(0, 1500);
        // (104 + 80 * 44) / 100 = 36: 1296; with 90 mm 40: 1600
        Check.due("90 mm do", thin.cheapest(0, 1), 2090);
        Check.promise(38);
        Check.due("planCost of 90 mm", thin.planCost(1), 45);
        Check.promise(37);
        RoadWear made = Check.road("road 1 1;design asphalt 20 sand 15;load 0 0 0 10 100;life 1;over 999;build 1;");
        made.patch(RoadWear.REBUILD, 0, 0);
        made.set(2, 10);
        Check.due("no second rebuild", made.cheapest(0, 10) / 1000, 2);
    }

    private static void planCost() {
        Check.promise(38);
        RoadWear road = Check.road(TEXT + "money 0;rut 0 0 100;rut 0 1 150;over 100;");
        Check.due("cell 3 alone", road.planCost(1), 15);
        Check.due("cell 3 alone", road.planCost(4), 15);
        Check.due("cells 0 and 3", road.planCost(5), 25);
        Check.due("cells 0, 1 and 3", road.planCost(15), 215);
        Check.due("no money is spent", road.count(6), 0);
        road.addLoad(1, 2, 2, 30, 999999, 0);
        Check.due("one can't be helped", road.planCost(1), RoadWear.NONE);
        Check.throwing("years", Check.ARGUMENT, () -> road.planCost(0));
        Check.throwing("years", Check.ARGUMENT, () -> road.planCost(61));
        Check.due("nothing to do", Check.road("road 16 4;").planCost(60), 0);
    }

    private static void patch() {
        Check.promise(50);
        RoadWear road = Check.road(TEXT + "fill 3;over 7;build 11;money 50;rut 1 0 30;rut 2 0 31;core 0 1 sand 100;");
        Check.due("a fill", road.patch(RoadWear.FILL, 1, 77), 9);
        Check.due("money", road.count(6), 41);
        Check.due("paid for fills", road.count(7), 9);
        Check.due("its rut", road.cell(1, 2), 0);
        Check.due("its overlay", road.cell(1, 3), 0);
        Check.due("refused", road.patch(RoadWear.FILL, 1, 0), -2);
        Check.due("a refused one is no change", road.count(13), 1);
        Check.due("an overlay", road.patch(RoadWear.OVERLAY, 2, 15), 14);
        Check.due("money", road.count(6), 27);
        Check.due("paid for overlays", road.count(8), 14);
        Check.due("its rut", road.cell(2, 2), 0);
        Check.due("its overlay", road.cell(2, 3), 15);
        Check.due("one more overlay", road.patch(RoadWear.OVERLAY, 2, 10), 7);
        Check.due("its overlay", road.cell(2, 3), 25);
        road.pass(1);
        road.measure(2, 5);
        Check.due("a rebuild", road.patch(RoadWear.REBUILD, 2, 0), 11);
        Check.due("money", road.count(6), 9);
        Check.due("paid for rebuilding", road.count(9), 11);
        int[] rebuilt = {2, 0, 0, 0, 1, 10, 2, -1, -1};
        for (int what = 0; what < rebuilt.length; what++) {
            Check.due("cell(2, " + what + ")", road.cell(2, what), rebuilt[what]);
        }
        Check.due("not enough money", road.patch(RoadWear.OVERLAY, 0, 20), -1);
        Check.due("not enough money for a rebuild", road.patch(RoadWear.REBUILD, 2, 0), -1);
        road.give(900);
        Check.due("as new", road.patch(RoadWear.REBUILD, 2, 0), -4);
        Check.due("worn is 100", road.worn(0), 100L);
        Check.due("a worn cell", road.patch(RoadWear.REBUILD, 0, 0), 11);
        Check.due("nothing worn", road.worn(0), 0L);
        Check.due("more than 300", road.patch(RoadWear.OVERLAY, 5, 100) + road.patch(RoadWear.OVERLAY, 5, 100)
                + road.patch(RoadWear.OVERLAY, 5, 100), 210);
        Check.due("more than 300", road.patch(RoadWear.OVERLAY, 5, 10), -3);
        Check.due("paid for overlays", road.count(8), 231);
        RoadWear free = Check.road("road 1 1;money 0;fill 0;rut 0 0 5;");
        Check.due("a free one", free.patch(RoadWear.FILL, 0, 0), 0);
        Check.due("is a change, too", free.count(13), 1);
        Check.due("its rut", free.cell(0, 2), 0);
        wrongInputs(RoadWear::patch);
    }
}
