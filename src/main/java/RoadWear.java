import java.util.Arrays;
import java.util.NoSuchElementException;

/**
 * Wear of a road: layers known by cores, ruts by wheels, a grid of loads by lanes and stations,
 * patches that are paid for, and the years that are left for each cell.
 */
public final class RoadWear {
    public static final int NONE = -1;
    public static final int NO_ERROR = 0;
    public static final int SYNTAX = 1;
    public static final int OUT_OF_RANGE = 2;
    public static final int REPEATED = 3;
    public static final int TOO_MANY = 4;
    public static final int FILL = 1, OVERLAY = 2, REBUILD = 3;

    private static final int MAX_INPUT = 700;
    private static final int MAX_OUTPUT = 256;
    private static final int MAX_STATIONS = 16;
    private static final int MAX_LANES = 4;
    private static final int MAX_CELLS = 64;
    private static final int MAX_CORES = 12;
    private static final int MAX_LAYERS = 4;
    private static final int MAX_THICKNESS = 500;
    private static final int MAX_LOADS = 10;
    private static final int MAX_WEIGHT = 30;
    private static final int MAX_COUNT = 999999;
    private static final int MAX_GROWTH = 20;
    private static final int MAX_RUT = 9999;
    private static final int MIN_OVERLAY = 10;
    private static final int MAX_OVERLAY = 100;
    private static final int MAX_OVERLAY_IN_ALL = 300;
    private static final int MAX_MONEY = 999999;
    private static final int MAX_PERCENT = 900;
    private static final int MAX_YEAR = 500;
    private static final int MAX_CHANGES = 8;

    /** Years are thought ahead as far as this. */
    private static final int YEARS_AHEAD = 60;
    /** Years left of a cell that does not fail so far ahead: more than all others, so that the least is a minimum. */
    private static final int NEVER = 61;

    /** Places of the amounts; the settings come first, in the order of setting(). */
    private static final int SOFT = 0;
    private static final int LIMIT = 1;
    private static final int LIFE = 2;
    private static final int FILL_COST = 3;
    private static final int OVER_COST = 4;
    private static final int BUILD_COST = 5;
    private static final int MONEY = 6;
    private static final int AMOUNTS = 7;
    private static final int[] LEAST_AMOUNTS = {1, 10, 1, 0, 0, 0, 0};
    private static final int[] GREATEST_AMOUNTS = {999, 999, 9999, 999, 999, 9999, 999999};
    private static final int[] USUAL_AMOUNTS = {10, 150, 100, 1, 5, 100, 1000};

    private static final int ASPHALT = 0;
    private static final int BINDER = 1;
    private static final int GRAVEL = 2;
    private static final int SAND = 3;
    private static final int[] FACTORS = {44, 30, 14, 8};
    private static final char[] KIND_LETTERS = {'a', 'b', 'g', 's'};

    private final Road road;
    private final Road saved;
    private final History history;
    private final Setup setup;
    private final Forecast forecast;
    private final Patches patches;
    private final Output output;
    private final int[] keys;
    private boolean hasSaved;

    public RoadWear() {
        road = new Road();
        saved = new Road();
        history = new History();
        setup = new Setup();
        forecast = new Forecast();
        patches = new Patches();
        output = new Output();
        keys = new int[MAX_CELLS];
        hasSaved = false;
    }

    public int appendInput(int a, int b, int c, int d, int e) {
        Tokens tokens = setup.tokens;
        if (tokens.length + 20 > MAX_INPUT) {
            return -1;
        }
        tokens.putFour(a);
        tokens.putFour(b);
        tokens.putFour(c);
        tokens.putFour(d);
        tokens.putFour(e);
        return tokens.length;
    }

    public boolean truncateInput(int length) {
        Tokens tokens = setup.tokens;
        if (length < 0 || length > tokens.length) {
            return false;
        }
        tokens.length = length;
        return true;
    }

    public int loadRoad() {
        boolean good = setup.read();
        setup.tokens.length = 0;
        if (!good) {
            return -1;
        }
        road.copyFrom(setup.draft);
        history.forget();
        hasSaved = false;
        return road.cells();
    }

    public int errorCode() {
        return setup.code;
    }

    public int errorOffset() {
        return setup.offset;
    }

    public int count(int what) throws IllegalArgumentException {
        checkRange(what, 0, 13);
        switch (what) {
            case 0: return road.stations;
            case 1: return road.lanes;
            case 2: return road.cells();
            case 3: return road.cores.size;
            case 4: return road.loads.size;
            case 5: return road.year;
            case 6: return road.amounts[MONEY];
            case 7: return road.paid[FILL];
            case 8: return road.paid[OVERLAY];
            case 9: return road.paid[REBUILD];
            case 10: return road.failingCells();
            case 11: return Integer.bitCount(road.closedLanes);
            case 12: return Long.bitCount(road.rebuiltCells);
            default: return history.size;
        }
    }

    public int setting(int what) throws IllegalArgumentException {
        checkRange(what, SOFT, BUILD_COST);
        return road.amounts[what];
    }

    public int cell(int cell, int what) throws IndexOutOfBoundsException, IllegalArgumentException {
        checkCell(cell);
        checkRange(what, 0, 8);
        switch (what) {
            case 0: return road.stationOf(cell);
            case 1: return road.laneOf(cell);
            case 2: return road.ruts[cell];
            case 3: return road.overlays[cell];
            case 4: return road.isRebuilt(cell) ? 1 : 0;
            case 5: return road.strengthOf(cell);
            case 6: return road.cores.layerCounts[road.rowOf(cell, NONE)];
            case 7: return road.coreOf(cell);
            default: return road.coreDistance(cell);
        }
    }

    public long worn(int cell) throws IndexOutOfBoundsException {
        checkCell(cell);
        return road.worn[cell];
    }

    public long capacity(int cell) throws IndexOutOfBoundsException {
        checkCell(cell);
        return road.capacityOf(road.strengthOf(cell));
    }

    public int layer(int cell, int layer, int what) throws IndexOutOfBoundsException, IllegalArgumentException {
        checkCell(cell);
        int row = road.rowOf(cell, NONE);
        checkIndex(layer, road.cores.layerCounts[row]);
        checkRange(what, 0, 1);
        return what == 0 ? road.cores.kindAt(row, layer) : road.cores.thicknessAt(row, layer);
    }

    public int core(int core, int what) throws IndexOutOfBoundsException, IllegalArgumentException {
        checkIndex(core, road.cores.size);
        checkRange(what, 0, 2);
        switch (what) {
            case 0: return road.cores.cells[core];
            case 1: return road.cores.layerCounts[core];
            default: return road.cellsOfCore(core);
        }
    }

    public int load(int load, int what) throws IndexOutOfBoundsException, IllegalArgumentException {
        checkIndex(load, road.loads.size);
        checkRange(what, 0, Loads.NUMBERS);
        return what == Loads.NUMBERS ? road.laneNow(load, NONE) : road.loads.numberOf(load, what);
    }

    public long base(int cell) throws IndexOutOfBoundsException {
        checkCell(cell);
        return road.baseNow(cell);
    }

    public long baseOf(int load, int cell) throws IndexOutOfBoundsException {
        checkIndex(load, road.loads.size);
        checkCell(cell);
        return road.shareNow(load, cell);
    }

    public int heaviest(int cell) throws IndexOutOfBoundsException {
        checkCell(cell);
        int heaviest = NONE;
        long most = 0;
        for (int load = 0; load < road.loads.size; load++) {
            long share = road.shareNow(load, cell);
            if (share > most) {
                most = share;
                heaviest = load;
            }
        }
        return heaviest;
    }

    public long units(int cell) throws IndexOutOfBoundsException {
        checkCell(cell);
        return Road.unitsBy(road.baseNow(cell), road.ruts[cell]);
    }

    public int failsBy(int cell) throws IndexOutOfBoundsException {
        checkCell(cell);
        return road.failureNow(cell);
    }

    public int yearsLeft(int cell) throws IndexOutOfBoundsException {
        checkCell(cell);
        forecast.prepare(road, 0, NONE);
        return noneIfNever(forecast.yearsOf(road, cell));
    }

    public int nthCell(int index) throws IndexOutOfBoundsException {
        int cells = road.cells();
        checkIndex(index, cells);
        forecast.prepare(road, 0, NONE);
        for (int cell = 0; cell < cells; cell++) {
            // strengths stay below 2048 and cells below 64, so that one number orders by all three
            keys[cell] = (forecast.yearsOf(road, cell) * 2048 + road.strengthOf(cell)) * 64 + cell;
        }
        return cellOfRank(index, cells);
    }

    public int laneYears(int lane) throws IndexOutOfBoundsException {
        checkIndex(lane, road.lanes);
        forecast.prepare(road, 0, NONE);
        return noneIfNever(forecast.leastYears(road, lane, lane));
    }

    public int firstFailing(int lane) throws IndexOutOfBoundsException {
        checkIndex(lane, road.lanes);
        forecast.prepare(road, 0, NONE);
        int first = NONE;
        int least = NEVER;
        for (int station = 0; station < road.stations; station++) {
            int years = forecast.yearsOf(road, road.cellAt(station, lane));
            if (years < least) {
                least = years;
                first = station;
            }
        }
        return first;
    }

    public int failing(int years) throws IllegalArgumentException {
        checkYears(years);
        forecast.prepare(road, 0, NONE);
        int failing = 0;
        for (int cell = 0; cell < road.cells(); cell++) {
            if (forecast.yearsOf(road, cell) <= years) {
                failing++;
            }
        }
        return failing;
    }

    public int rutIn(int cell, int years) throws IndexOutOfBoundsException, IllegalArgumentException {
        checkCell(cell);
        checkYears(years);
        forecast.prepare(road, 0, NONE);
        forecast.follow(road, cell, years);
        return forecast.rut;
    }

    public long wornIn(int cell, int years) throws IndexOutOfBoundsException, IllegalArgumentException {
        checkCell(cell);
        checkYears(years);
        forecast.prepare(road, 0, NONE);
        forecast.follow(road, cell, years);
        return forecast.worn;
    }

    public int countIn(int load, int years) throws IndexOutOfBoundsException, IllegalArgumentException {
        checkIndex(load, road.loads.size);
        checkYears(years);
        return road.loads.countAfter(load, years);
    }

    public int yearsWith(int cell, int percent) throws IndexOutOfBoundsException, IllegalArgumentException {
        checkCell(cell);
        checkRange(percent, 0, MAX_PERCENT);
        forecast.prepare(road, percent, NONE);
        return noneIfNever(forecast.yearsOf(road, cell));
    }

    public int yearsIfClosed(int lane, int other) throws IndexOutOfBoundsException {
        checkIndex(lane, road.lanes);
        checkIndex(other, road.lanes);
        forecast.prepare(road, 0, other);
        return noneIfNever(forecast.leastYears(road, lane, lane));
    }

    public int safestClosing() {
        int safest = NONE;
        int greatest = -1;
        for (int lane = 0; lane < road.lanes; lane++) {
            if (!road.isClosed(lane)) {
                forecast.prepare(road, 0, lane);
                int least = forecast.leastYears(road, 0, road.lanes - 1);
                if (least > greatest) {
                    greatest = least;
                    safest = lane;
                }
            }
        }
        return safest;
    }

    public int weakest() throws NoSuchElementException {
        if (road.cells() == 0) {
            throw new NoSuchElementException("there are no cells");
        }
        int weakest = 0;
        int least = road.strengthOf(0);
        for (int cell = 1; cell < road.cells(); cell++) {
            int strength = road.strengthOf(cell);
            if (strength < least) {
                least = strength;
                weakest = cell;
            }
        }
        return weakest;
    }

    public int discardTells(int core) throws IndexOutOfBoundsException {
        checkIndex(core, road.cores.size);
        int sum = 0;
        for (int cell = 0; cell < road.cells(); cell++) {
            int without = road.strengthBy(road.rowOf(cell, core), road.overlays[cell]);
            sum += Math.abs(road.strengthOf(cell) - without);
        }
        return sum;
    }

    public int nextCore() {
        int next = NONE;
        int greatest = 0;
        for (int cell = 0; cell < road.cells(); cell++) {
            if (!road.isRebuilt(cell)) {
                int core = road.nearestCore(cell, NONE);
                if (core == NONE) {
                    return cell;
                }
                int distance = road.distance(cell, road.cores.cells[core]);
                if (distance > greatest) {
                    greatest = distance;
                    next = cell;
                }
            }
        }
        return next;
    }

    public int cost(int kind, int cell, int mm) throws IndexOutOfBoundsException, IllegalArgumentException {
        checkPatch(kind, cell, mm);
        return patches.costOf(road, kind, cell, mm);
    }

    public int whyNot(int kind, int cell, int mm) throws IndexOutOfBoundsException, IllegalArgumentException {
        checkPatch(kind, cell, mm);
        return patches.refusal(road, kind, cell, mm);
    }

    public int yearsBehind(int kind, int cell, int mm) throws IndexOutOfBoundsException, IllegalArgumentException {
        checkPatch(kind, cell, mm);
        forecast.prepare(road, 0, NONE);
        return noneIfNever(forecast.yearsPatched(road, kind, cell, mm));
    }

    public int cheapest(int cell, int years) throws IndexOutOfBoundsException, IllegalArgumentException {
        checkCell(cell);
        checkYears(years);
        forecast.prepare(road, 0, NONE);
        return patches.cheapestFor(road, forecast, cell, years);
    }

    public int planCost(int years) throws IllegalArgumentException {
        checkYears(years);
        forecast.prepare(road, 0, NONE);
        int sum = 0;
        for (int cell = 0; cell < road.cells(); cell++) {
            int patch = patches.cheapestFor(road, forecast, cell, years);
            if (patch == NONE) {
                return NONE;
            }
            if (patch != 0) {
                sum += patches.costOf(road, patch / 1000, cell, patch % 1000);
            }
        }
        return sum;
    }

    public double meanRut(int lane) throws IndexOutOfBoundsException {
        checkIndex(lane, road.lanes);
        int sum = 0;
        for (int station = 0; station < road.stations; station++) {
            sum += road.ruts[road.cellAt(station, lane)];
        }
        double number = (double) Math.max(1, road.stations);
        return (double) sum / number;
    }

    public float wornShare(int cell) throws IndexOutOfBoundsException {
        checkCell(cell);
        float capacity = (float) Math.max(1L, road.capacityOf(road.strengthOf(cell)));
        return (float) road.worn[cell] / capacity;
    }

    public int pass(int years) throws IllegalArgumentException, IllegalStateException {
        checkYears(years);
        if (road.cells() == 0 || road.year + years > MAX_YEAR) {
            throw new IllegalStateException("these years can't pass");
        }
        history.keep(road);
        // cells don't act on one another, so each may go through all of the years alone
        forecast.prepare(road, 0, NONE);
        for (int cell = 0; cell < road.cells(); cell++) {
            forecast.follow(road, cell, years);
            road.ruts[cell] = forecast.rut;
            road.worn[cell] = forecast.worn;
        }
        for (int load = 0; load < road.loads.size; load++) {
            road.loads.putCount(load, road.loads.countAfter(load, years));
        }
        road.year += years;
        return road.failingCells();
    }

    public int drill(int cell, int kind, int mm)
            throws IndexOutOfBoundsException, IllegalArgumentException, IllegalStateException {
        checkCell(cell);
        checkLayer(kind, mm);
        if (road.cores.coreAt(cell) != NONE || road.cores.size >= MAX_CORES) {
            throw new IllegalStateException("no core can be drilled there");
        }
        history.keep(road);
        int core = road.cores.insertAt(cell);
        road.cores.putLayer(core, kind, mm);
        return core;
    }

    public int addLayer(int core, int kind, int mm)
            throws IndexOutOfBoundsException, IllegalArgumentException, IllegalStateException {
        checkIndex(core, road.cores.size);
        checkLayer(kind, mm);
        if (road.cores.layerCounts[core] >= MAX_LAYERS) {
            throw new IllegalStateException("the core has all its layers");
        }
        history.keep(road);
        road.cores.putLayer(core, kind, mm);
        return road.cores.layerCounts[core];
    }

    public int discard(int core) throws IndexOutOfBoundsException {
        checkIndex(core, road.cores.size);
        history.keep(road);
        road.cores.remove(core);
        return road.cores.size;
    }

    public int measure(int cell, int rut) throws IndexOutOfBoundsException, IllegalArgumentException {
        checkCell(cell);
        checkRange(rut, 0, MAX_RUT);
        history.keep(road);
        int before = road.ruts[cell];
        road.ruts[cell] = rut;
        return before;
    }

    public int addLoad(int lane, int first, int last, int weight, int count, int growth)
            throws IndexOutOfBoundsException, IllegalArgumentException, IllegalStateException {
        checkIndex(lane, road.lanes);
        checkIndex(first, road.stations);
        checkIndex(last, road.stations);
        checkRange(last, first, road.stations - 1);
        checkRange(weight, 1, MAX_WEIGHT);
        checkRange(count, 0, MAX_COUNT);
        checkRange(growth, 0, MAX_GROWTH);
        if (road.loads.size >= MAX_LOADS) {
            throw new IllegalStateException("there are all loads that there may be");
        }
        history.keep(road);
        return road.loads.put(lane, first, last, weight, count, growth);
    }

    public int removeLoad(int load) throws IndexOutOfBoundsException {
        checkIndex(load, road.loads.size);
        history.keep(road);
        road.loads.remove(load);
        return road.loads.size;
    }

    public int setCount(int load, int count) throws IndexOutOfBoundsException, IllegalArgumentException {
        checkIndex(load, road.loads.size);
        checkRange(count, 0, MAX_COUNT);
        history.keep(road);
        int before = road.loads.numberOf(load, Loads.COUNT);
        road.loads.putCount(load, count);
        return before;
    }

    public boolean close(int lane, boolean closed) throws IndexOutOfBoundsException {
        checkIndex(lane, road.lanes);
        history.keep(road);
        boolean before = road.isClosed(lane);
        road.putClosed(lane, closed);
        return before;
    }

    public int patch(int kind, int cell, int mm) throws IndexOutOfBoundsException, IllegalArgumentException {
        checkPatch(kind, cell, mm);
        int reason = patches.refusal(road, kind, cell, mm);
        if (reason != 0) {
            return -reason;
        }
        history.keep(road);
        return patches.apply(road, kind, cell, mm);
    }

    public int set(int what, int value) throws IllegalArgumentException {
        checkRange(what, SOFT, BUILD_COST);
        checkRange(value, LEAST_AMOUNTS[what], GREATEST_AMOUNTS[what]);
        history.keep(road);
        int before = road.amounts[what];
        road.amounts[what] = value;
        return before;
    }

    public int give(int money) throws IllegalArgumentException {
        checkRange(money, 1, MAX_MONEY);
        history.keep(road);
        road.amounts[MONEY] = Math.min(MAX_MONEY, road.amounts[MONEY] + money);
        return road.amounts[MONEY];
    }

    public int undo() throws IllegalStateException {
        if (history.size == 0) {
            throw new IllegalStateException("nothing can be undone");
        }
        history.takeBack(road);
        return history.size;
    }

    public int printCell(int cell) throws IndexOutOfBoundsException {
        checkCell(cell);
        int row = road.rowOf(cell, NONE);
        output.length = 0;
        for (int layer = 0; layer < road.cores.layerCounts[row]; layer++) {
            output.separate(layer, '+');
            output.putSign(KIND_LETTERS[road.cores.kindAt(row, layer)]);
            output.putNumber(road.cores.thicknessAt(row, layer));
        }
        if (road.overlays[cell] > 0) {
            output.putSign('-');
            output.putNumber(road.overlays[cell]);
        }
        if (road.isRebuilt(cell)) {
            output.putSign('*');
        }
        return output.length;
    }

    public int printLane(int lane) throws IndexOutOfBoundsException {
        checkIndex(lane, road.lanes);
        forecast.prepare(road, 0, NONE);
        output.length = 0;
        for (int station = 0; station < road.stations; station++) {
            output.separate(station, ' ');
            int years = forecast.yearsOf(road, road.cellAt(station, lane));
            if (years == NEVER) {
                output.putSign('#');
            } else {
                output.putNumber(years);
            }
        }
        return output.length;
    }

    public int printLoads() {
        output.length = 0;
        for (int load = 0; load < road.loads.size; load++) {
            output.separate(load, ' ');
            printLoad(load);
        }
        if (road.loads.size == 0) {
            output.putSign('-');
        }
        return output.length;
    }

    public int outputByte(int index) {
        return index < 0 || index >= output.length ? -1 : output.bytes[index];
    }

    public int saveState() {
        saved.copyFrom(road);
        hasSaved = true;
        return road.year;
    }

    public int restoreState() throws IllegalStateException {
        if (!hasSaved) {
            throw new IllegalStateException("no state is saved");
        }
        road.copyFrom(saved);
        history.forget();
        return road.year;
    }

    private void checkCell(int cell) {
        checkIndex(cell, road.cells());
    }

    private static void checkIndex(int index, int size) {
        if (index < 0 || index >= size) {
            throw new IndexOutOfBoundsException("there is no such number");
        }
    }

    private static void checkRange(int value, int least, int greatest) {
        if (value < least || value > greatest) {
            throw new IllegalArgumentException("a number is out of range");
        }
    }

    private static void checkYears(int years) {
        checkRange(years, 1, YEARS_AHEAD);
    }

    private static void checkLayer(int kind, int mm) {
        checkRange(kind, ASPHALT, SAND);
        checkRange(mm, 1, MAX_THICKNESS);
    }

    private void checkPatch(int kind, int cell, int mm) {
        checkCell(cell);
        checkRange(kind, FILL, REBUILD);
        if (kind == OVERLAY) {
            checkRange(mm, MIN_OVERLAY, MAX_OVERLAY);
        }
    }

    private static int noneIfNever(int years) {
        return years == NEVER ? NONE : years;
    }

    /** The keys are all different, so that each rank has one cell. */
    private int cellOfRank(int rank, int cells) {
        for (int cell = 0; cell < cells; cell++) {
            int smaller = 0;
            for (int other = 0; other < cells; other++) {
                if (keys[other] < keys[cell]) {
                    smaller++;
                }
            }
            if (smaller == rank) {
                return cell;
            }
        }
        return NONE;
    }

    private void printLoad(int load) {
        Loads loads = road.loads;
        output.putNumber(loads.numberOf(load, Loads.LANE));
        output.putSign(':');
        output.putNumber(loads.numberOf(load, Loads.FIRST));
        output.putSign('-');
        output.putNumber(loads.numberOf(load, Loads.LAST));
        output.putSign('x');
        output.putNumber(loads.numberOf(load, Loads.WEIGHT));
        output.putSign('*');
        output.putNumber(loads.numberOf(load, Loads.COUNT));
        int growth = loads.numberOf(load, Loads.GROWTH);
        if (growth != 0) {
            output.putSign('+');
            output.putNumber(growth);
        }
    }

    /** Rows of layers: those of the cores, which are kept in the order of their cells, and behind them the DESIGN. */
    private static final class Cores {
        static final int DESIGN = 12;

        int size;
        final int[] cells;
        final int[] layerCounts;
        private final int[] kinds;
        private final int[] thicknesses;

        Cores() {
            cells = new int[MAX_CORES];
            layerCounts = new int[MAX_CORES + 1];
            kinds = new int[(MAX_CORES + 1) * MAX_LAYERS];
            thicknesses = new int[(MAX_CORES + 1) * MAX_LAYERS];
        }

        void reset() {
            size = 0;
            layerCounts[DESIGN] = 0;
            putLayer(DESIGN, ASPHALT, 100);
            putLayer(DESIGN, GRAVEL, 200);
        }

        void copyFrom(Cores other) {
            size = other.size;
            System.arraycopy(other.cells, 0, cells, 0, cells.length);
            System.arraycopy(other.layerCounts, 0, layerCounts, 0, layerCounts.length);
            System.arraycopy(other.kinds, 0, kinds, 0, kinds.length);
            System.arraycopy(other.thicknesses, 0, thicknesses, 0, thicknesses.length);
        }

        int coreAt(int cell) {
            for (int core = 0; core < size; core++) {
                if (cells[core] == cell) {
                    return core;
                }
            }
            return NONE;
        }

        /** Makes room for a core without layers; there must be less than 12, or the DESIGN would be overwritten. */
        int insertAt(int cell) {
            int core = 0;
            while (core < size && cells[core] < cell) {
                core++;
            }
            moveRows(core, core + 1, size - core);
            cells[core] = cell;
            layerCounts[core] = 0;
            size++;
            return core;
        }

        void remove(int core) {
            moveRows(core + 1, core, size - core - 1);
            size--;
        }

        private void moveRows(int from, int to, int rows) {
            System.arraycopy(cells, from, cells, to, rows);
            System.arraycopy(layerCounts, from, layerCounts, to, rows);
            System.arraycopy(kinds, from * MAX_LAYERS, kinds, to * MAX_LAYERS, rows * MAX_LAYERS);
            System.arraycopy(thicknesses, from * MAX_LAYERS, thicknesses, to * MAX_LAYERS, rows * MAX_LAYERS);
        }

        void putLayer(int row, int kind, int mm) {
            int layer = layerCounts[row];
            if (layer < MAX_LAYERS) {
                kinds[row * MAX_LAYERS + layer] = kind;
                thicknesses[row * MAX_LAYERS + layer] = mm;
                layerCounts[row] = layer + 1;
            }
        }

        int kindAt(int row, int layer) {
            return kinds[row * MAX_LAYERS + layer];
        }

        int thicknessAt(int row, int layer) {
            return thicknesses[row * MAX_LAYERS + layer];
        }

        int weightedThickness(int row) {
            int sum = 0;
            for (int layer = 0; layer < layerCounts[row]; layer++) {
                sum += thicknessAt(row, layer) * FACTORS[kindAt(row, layer)];
            }
            return sum;
        }
    }

    /** The loads in the order in which they came, each with its numbers in the order of load(). */
    private static final class Loads {
        static final int LANE = 0;
        static final int FIRST = 1;
        static final int LAST = 2;
        static final int WEIGHT = 3;
        static final int COUNT = 4;
        static final int GROWTH = 5;
        static final int NUMBERS = 6;

        int size;
        private final int[] numbers;

        Loads() {
            numbers = new int[MAX_LOADS * NUMBERS];
        }

        void copyFrom(Loads other) {
            size = other.size;
            System.arraycopy(other.numbers, 0, numbers, 0, numbers.length);
        }

        int numberOf(int load, int what) {
            return numbers[load * NUMBERS + what];
        }

        void putCount(int load, int count) {
            numbers[load * NUMBERS + COUNT] = count;
        }

        /** Puts a load behind the others; there must be less than 10. */
        int put(int lane, int first, int last, int weight, int count, int growth) {
            int at = size * NUMBERS;
            numbers[at + LANE] = lane;
            numbers[at + FIRST] = first;
            numbers[at + LAST] = last;
            numbers[at + WEIGHT] = weight;
            numbers[at + COUNT] = count;
            numbers[at + GROWTH] = growth;
            size++;
            return size - 1;
        }

        void remove(int load) {
            int behind = size - load - 1;
            System.arraycopy(numbers, (load + 1) * NUMBERS, numbers, load * NUMBERS, behind * NUMBERS);
            size--;
        }

        boolean hasStation(int load, int station) {
            return station >= numberOf(load, FIRST) && station <= numberOf(load, LAST);
        }

        int countAfter(int load, int years) {
            int count = numberOf(load, COUNT);
            int growth = numberOf(load, GROWTH);
            for (int year = 0; year < years; year++) {
                count = grown(count, growth);
            }
            return count;
        }

        static int grown(int count, int growth) {
            return Math.min(MAX_COUNT, count + count * growth / 100);
        }

        static int raised(int count, int percent) {
            return (int) Math.min((long) MAX_COUNT, (long) count * (100 + percent) / 100);
        }

        static long shareBy(int count, int weight) {
            long square = (long) weight * weight;
            return count * square * square / 10000;
        }
    }

    /** Everything that a change may touch, so that a copy of it undoes the change. */
    private static final class Road {
        int stations;
        int lanes;
        int year;
        int closedLanes;
        long rebuiltCells;
        final int[] amounts;
        final int[] paid;
        final int[] ruts;
        final int[] overlays;
        final long[] worn;
        final Cores cores;
        final Loads loads;

        Road() {
            amounts = new int[AMOUNTS];
            paid = new int[REBUILD + 1];
            ruts = new int[MAX_CELLS];
            overlays = new int[MAX_CELLS];
            worn = new long[MAX_CELLS];
            cores = new Cores();
            loads = new Loads();
            reset();
        }

        void reset() {
            stations = 0;
            lanes = 0;
            year = 0;
            closedLanes = 0;
            rebuiltCells = 0;
            System.arraycopy(USUAL_AMOUNTS, 0, amounts, 0, AMOUNTS);
            Arrays.fill(paid, 0);
            Arrays.fill(ruts, 0);
            Arrays.fill(overlays, 0);
            Arrays.fill(worn, 0L);
            cores.reset();
            loads.size = 0;
        }

        void copyFrom(Road other) {
            stations = other.stations;
            lanes = other.lanes;
            year = other.year;
            closedLanes = other.closedLanes;
            rebuiltCells = other.rebuiltCells;
            System.arraycopy(other.amounts, 0, amounts, 0, amounts.length);
            System.arraycopy(other.paid, 0, paid, 0, paid.length);
            System.arraycopy(other.ruts, 0, ruts, 0, ruts.length);
            System.arraycopy(other.overlays, 0, overlays, 0, overlays.length);
            System.arraycopy(other.worn, 0, worn, 0, worn.length);
            cores.copyFrom(other.cores);
            loads.copyFrom(other.loads);
        }

        int cells() {
            return stations * lanes;
        }

        int cellAt(int station, int lane) {
            return lane * stations + station;
        }

        int laneOf(int cell) {
            return cell / Math.max(1, stations);
        }

        int stationOf(int cell) {
            return cell % Math.max(1, stations);
        }

        int distance(int cell, int other) {
            int width = Math.max(1, stations);
            return Math.abs(cell % width - other % width) + 3 * Math.abs(cell / width - other / width);
        }

        boolean isClosed(int lane) {
            return (closedLanes >> lane & 1) != 0;
        }

        void putClosed(int lane, boolean closed) {
            int bit = 1 << lane;
            closedLanes = closed ? closedLanes | bit : closedLanes & ~bit;
        }

        boolean isRebuilt(int cell) {
            return (rebuiltCells >> cell & 1L) != 0;
        }

        void putRebuilt(int cell) {
            rebuiltCells |= 1L << cell;
        }

        /** The nearest core, as if the core without (or NONE) was discarded. */
        int nearestCore(int cell, int without) {
            int nearest = NONE;
            int least = 0;
            for (int core = 0; core < cores.size; core++) {
                int distance = distance(cell, cores.cells[core]);
                if (core != without && (nearest == NONE || distance < least)) {
                    nearest = core;
                    least = distance;
                }
            }
            return nearest;
        }

        int rowOf(int cell, int without) {
            int core = isRebuilt(cell) ? NONE : nearestCore(cell, without);
            return core == NONE ? Cores.DESIGN : core;
        }

        int coreOf(int cell) {
            int row = rowOf(cell, NONE);
            return row == Cores.DESIGN ? NONE : row;
        }

        int coreDistance(int cell) {
            int core = coreOf(cell);
            return core == NONE ? NONE : distance(cell, cores.cells[core]);
        }

        int cellsOfCore(int core) {
            int number = 0;
            for (int cell = 0; cell < cells(); cell++) {
                if (coreOf(cell) == core) {
                    number++;
                }
            }
            return number;
        }

        int strengthBy(int row, int overlay) {
            int sum = cores.weightedThickness(row) + overlay * FACTORS[ASPHALT];
            return Math.max(1, sum / 100);
        }

        int strengthOf(int cell) {
            return strengthBy(rowOf(cell, NONE), overlays[cell]);
        }

        long capacityOf(int strength) {
            return (long) strength * strength * amounts[LIFE];
        }

        /** As failsBy() tells it, of a cell with these numbers. */
        int failureBy(int rut, long wornUnits, int strength) {
            int byRut = rut >= amounts[LIMIT] ? 1 : 0;
            int byWear = wornUnits >= capacityOf(strength) ? 2 : 0;
            return byRut + byWear;
        }

        int failureNow(int cell) {
            return failureBy(ruts[cell], worn[cell], strengthOf(cell));
        }

        int failingCells() {
            int failing = 0;
            for (int cell = 0; cell < cells(); cell++) {
                if (failureNow(cell) != 0) {
                    failing++;
                }
            }
            return failing;
        }

        /** The lane on which a load is, as if the lane closing (or NONE) was closed, too. */
        int laneNow(int load, int closing) {
            int own = loads.numberOf(load, Loads.LANE);
            for (int distance = 0; distance < lanes; distance++) {
                if (isOpen(own - distance, closing)) {
                    return own - distance;
                }
                if (isOpen(own + distance, closing)) {
                    return own + distance;
                }
            }
            return NONE;
        }

        private boolean isOpen(int lane, int closing) {
            return lane >= 0 && lane < lanes && lane != closing && !isClosed(lane);
        }

        long shareNow(int load, int cell) {
            if (laneNow(load, NONE) != laneOf(cell) || !loads.hasStation(load, stationOf(cell))) {
                return 0;
            }
            return Loads.shareBy(loads.numberOf(load, Loads.COUNT), loads.numberOf(load, Loads.WEIGHT));
        }

        long baseNow(int cell) {
            long sum = 0;
            for (int load = 0; load < loads.size; load++) {
                sum += shareNow(load, cell);
            }
            return sum;
        }

        static long unitsBy(long base, int rut) {
            return base * (1000 + rut) / 1000;
        }
    }

    /**
     * Thinks years ahead without a change to the road: prepare() takes up the loads as they will be, then
     * cells are followed one by one. Its rows are made once, as what a call makes is never given back.
     */
    private static final class Forecast {
        int rut;
        long worn;
        private int strength;
        private int cellInSight;
        private final int[] lanesNow;
        private final long[] shares;
        private final long[] bases;

        Forecast() {
            cellInSight = NONE;
            lanesNow = new int[MAX_LOADS];
            shares = new long[MAX_LOADS * YEARS_AHEAD];
            bases = new long[YEARS_AHEAD];
        }

        /** To be called anew whenever the road may be another one; percent and closing (or NONE) are as if. */
        void prepare(Road road, int percent, int closing) {
            Loads loads = road.loads;
            cellInSight = NONE;
            for (int load = 0; load < loads.size; load++) {
                lanesNow[load] = road.laneNow(load, closing);
                int weight = loads.numberOf(load, Loads.WEIGHT);
                int growth = loads.numberOf(load, Loads.GROWTH);
                int count = Loads.raised(loads.numberOf(load, Loads.COUNT), percent);
                for (int year = 0; year < YEARS_AHEAD; year++) {
                    shares[load * YEARS_AHEAD + year] = Loads.shareBy(count, weight);
                    count = Loads.grown(count, growth);
                }
            }
        }

        int yearsOf(Road road, int cell) {
            lookAt(road, cell);
            startWith(road.ruts[cell], road.worn[cell], road.strengthOf(cell));
            return yearsUntilFailure(road);
        }

        int yearsPatched(Road road, int kind, int cell, int mm) {
            lookAt(road, cell);
            if (kind == REBUILD) {
                startWith(0, 0L, road.strengthBy(Cores.DESIGN, 0));
            } else {
                int more = kind == OVERLAY ? mm : 0;
                startWith(0, road.worn[cell], road.strengthBy(road.rowOf(cell, NONE), road.overlays[cell] + more));
            }
            return yearsUntilFailure(road);
        }

        /** Of the cells of some lanes, from the first to the last one. */
        int leastYears(Road road, int firstLane, int lastLane) {
            int least = NEVER;
            int behind = road.cellAt(0, lastLane + 1);
            for (int cell = road.cellAt(0, firstLane); cell < behind; cell++) {
                least = Math.min(least, yearsOf(road, cell));
            }
            return least;
        }

        /** Leaves the rut and what is worn behind the years. */
        void follow(Road road, int cell, int years) {
            lookAt(road, cell);
            startWith(road.ruts[cell], road.worn[cell], road.strengthOf(cell));
            for (int year = 0; year < years && year < YEARS_AHEAD; year++) {
                takeYear(bases[year], road.amounts[SOFT]);
            }
        }

        /** A cell that is tried with one patch after another has the same bases each time. */
        private void lookAt(Road road, int cell) {
            if (cell == cellInSight) {
                return;
            }
            cellInSight = cell;
            Arrays.fill(bases, 0L);
            int lane = road.laneOf(cell);
            int station = road.stationOf(cell);
            for (int load = 0; load < road.loads.size; load++) {
                if (lanesNow[load] == lane && road.loads.hasStation(load, station)) {
                    addShares(load);
                }
            }
        }

        private void addShares(int load) {
            for (int year = 0; year < YEARS_AHEAD; year++) {
                bases[year] += shares[load * YEARS_AHEAD + year];
            }
        }

        private void startWith(int firstRut, long firstWorn, int itsStrength) {
            rut = firstRut;
            worn = firstWorn;
            strength = itsStrength;
        }

        private int yearsUntilFailure(Road road) {
            for (int year = 0; year < YEARS_AHEAD; year++) {
                if (road.failureBy(rut, worn, strength) != 0) {
                    return year;
                }
                takeYear(bases[year], road.amounts[SOFT]);
            }
            return road.failureBy(rut, worn, strength) != 0 ? YEARS_AHEAD : NEVER;
        }

        private void takeYear(long base, int soft) {
            long units = Road.unitsBy(base, rut);
            long square = Math.max(1L, (long) strength * strength);
            rut = (int) Math.min((long) MAX_RUT, rut + units * soft / square);
            worn += units;
        }
    }

    /** What patches cost, why they are refused, and which one is cheapest. */
    private static final class Patches {
        /** A fill, ten overlays, and a rebuild. */
        private static final int CHOICES = 12;

        int costOf(Road road, int kind, int cell, int mm) {
            if (kind == FILL) {
                return road.amounts[FILL_COST] * ((road.ruts[cell] + 9) / 10);
            }
            if (kind == OVERLAY) {
                return road.amounts[OVER_COST] * ((mm + 9) / 10);
            }
            return road.amounts[BUILD_COST];
        }

        int refusal(Road road, int kind, int cell, int mm) {
            return costOf(road, kind, cell, mm) > road.amounts[MONEY] ? 1 : refusalUnpaid(road, kind, cell, mm);
        }

        /** Why a patch would be refused, whatever the money is. */
        private int refusalUnpaid(Road road, int kind, int cell, int mm) {
            if (kind == FILL) {
                return road.ruts[cell] == 0 ? 2 : 0;
            }
            if (kind == OVERLAY) {
                return road.overlays[cell] + mm > MAX_OVERLAY_IN_ALL ? 3 : 0;
            }
            boolean fresh = road.overlays[cell] == 0 && road.ruts[cell] == 0 && road.worn[cell] == 0;
            return road.isRebuilt(cell) && fresh ? 4 : 0;
        }

        int apply(Road road, int kind, int cell, int mm) {
            int cost = costOf(road, kind, cell, mm);
            road.amounts[MONEY] -= cost;
            road.paid[kind] += cost;
            road.ruts[cell] = 0;
            if (kind == OVERLAY) {
                road.overlays[cell] += mm;
            }
            if (kind == REBUILD) {
                road.overlays[cell] = 0;
                road.worn[cell] = 0;
                road.putRebuilt(cell);
            }
            return cost;
        }

        /** As cheapest() tells it; the forecast must be prepared. */
        int cheapestFor(Road road, Forecast forecast, int cell, int years) {
            if (forecast.yearsOf(road, cell) > years) {
                return 0;
            }
            int best = NONE;
            int leastCost = 0;
            for (int choice = 0; choice < CHOICES; choice++) {
                int kind = kindOfChoice(choice);
                int mm = kind == OVERLAY ? choice * 10 : 0;
                int cost = costOf(road, kind, cell, mm);
                boolean cheaper = best == NONE || cost < leastCost;
                if (cheaper && refusalUnpaid(road, kind, cell, mm) == 0
                        && forecast.yearsPatched(road, kind, cell, mm) > years) {
                    best = 1000 * kind + mm;
                    leastCost = cost;
                }
            }
            return best;
        }

        private static int kindOfChoice(int choice) {
            if (choice == 0) {
                return FILL;
            }
            return choice == CHOICES - 1 ? REBUILD : OVERLAY;
        }
    }

    /** The road as it was ahead of each of the latest changes, in a ring. */
    private static final class History {
        int size;
        private int oldest;
        private final Road[] roads;

        History() {
            roads = new Road[MAX_CHANGES];
            for (int slot = 0; slot < MAX_CHANGES; slot++) {
                roads[slot] = new Road();
            }
        }

        void forget() {
            size = 0;
        }

        void keep(Road road) {
            if (size == MAX_CHANGES) {
                oldest = (oldest + 1) % MAX_CHANGES;
                size--;
            }
            roads[(oldest + size) % MAX_CHANGES].copyFrom(road);
            size++;
        }

        /** There must be one. */
        void takeBack(Road road) {
            size--;
            road.copyFrom(roads[(oldest + size) % MAX_CHANGES]);
        }
    }

    /** The bytes that were written last. */
    private static final class Output {
        int length;
        final byte[] bytes;

        Output() {
            bytes = new byte[MAX_OUTPUT];
        }

        void putSign(char sign) {
            if (length < MAX_OUTPUT) {
                bytes[length] = (byte) sign;
                length++;
            }
        }

        void separate(int index, char sign) {
            if (index > 0) {
                putSign(sign);
            }
        }

        /** For numbers from 0 to 999999: no greater one is ever written. */
        void putNumber(int number) {
            for (int unit = 100000; unit > 0; unit /= 10) {
                if (number >= unit || unit == 1) {
                    putSign((char) ('0' + number / unit % 10));
                }
            }
        }
    }

    /** The input buffer, and the token of its text that is read just now. */
    private static final class Tokens {
        static final int END = 0;
        static final int WORD = 1;
        static final int NUMBER = 2;
        static final int SEMICOLON = 3;
        static final int WRONG = 4;
        private static final int MAX_DIGITS = 6;

        int length;
        int kind;
        int start;
        int value;
        private int behind;
        private final byte[] bytes;

        Tokens() {
            bytes = new byte[MAX_INPUT];
        }

        /** There must be room for them. */
        void putFour(int four) {
            for (int shift = 24; shift >= 0; shift -= 8) {
                bytes[length] = (byte) (four >> shift);
                length++;
            }
        }

        void readFirst() {
            behind = 0;
            readNext();
        }

        void readNext() {
            start = behind;
            while (start < length && (bytes[start] == ' ' || bytes[start] == '\n')) {
                start++;
            }
            kind = start < length ? kindOf(bytes[start]) : END;
            behind = start < length ? start + 1 : start;
            if (kind == WORD || kind == NUMBER) {
                while (behind < length && kindOf(bytes[behind]) == kind) {
                    behind++;
                }
            }
            if (kind == NUMBER) {
                readValue();
            }
        }

        boolean isWord(String word) {
            if (kind != WORD || behind - start != word.length()) {
                return false;
            }
            for (int index = 0; index < word.length(); index++) {
                if (bytes[start + index] != word.charAt(index)) {
                    return false;
                }
            }
            return true;
        }

        /** A number that is too long is no token at all, as it can stand nowhere. */
        private void readValue() {
            value = 0;
            if (behind - start > MAX_DIGITS) {
                kind = WRONG;
                return;
            }
            for (int at = start; at < behind; at++) {
                value = value * 10 + bytes[at] - '0';
            }
        }

        private static int kindOf(byte sign) {
            if (sign >= 'a' && sign <= 'z') {
                return WORD;
            }
            if (sign >= '0' && sign <= '9') {
                return NUMBER;
            }
            return sign == ';' ? SEMICOLON : WRONG;
        }
    }

    /** Reads a setup text into a draft, so that a text with an error leaves the road alone. */
    private static final class Setup {
        final Tokens tokens;
        final Road draft;
        int code;
        int offset;
        private int number;
        private int numberStart;
        private int place;
        private boolean hasDesign;
        private int amountsTold;

        Setup() {
            tokens = new Tokens();
            draft = new Road();
            code = NO_ERROR;
            offset = NONE;
        }

        boolean read() {
            draft.reset();
            hasDesign = false;
            amountsTold = 0;
            code = NO_ERROR;
            offset = NONE;
            tokens.readFirst();
            if (!readRoad()) {
                return false;
            }
            // no text has more statements than bytes
            for (int statement = 0; statement < MAX_INPUT && tokens.kind != Tokens.END; statement++) {
                if (!readStatement()) {
                    return false;
                }
            }
            return true;
        }

        private boolean failAt(int error, int at) {
            code = error;
            offset = at;
            return false;
        }

        private boolean failHere(int error) {
            code = error;
            offset = tokens.start;
            return false;
        }

        private boolean readRoad() {
            if (!tokens.isWord("road")) {
                return failHere(SYNTAX);
            }
            tokens.readNext();
            if (!readNumber(1, MAX_STATIONS)) {
                return false;
            }
            draft.stations = number;
            if (!readNumber(1, MAX_LANES)) {
                return false;
            }
            draft.lanes = number;
            return readSemicolon();
        }

        private boolean readStatement() {
            if (tokens.isWord("core")) {
                return readCore();
            }
            if (tokens.isWord("design")) {
                return readDesign();
            }
            if (tokens.isWord("load")) {
                return readLoad();
            }
            if (tokens.isWord("rut")) {
                return readRut();
            }
            int amount = amountOfWord();
            return amount == NONE ? failHere(SYNTAX) : readAmount(amount);
        }

        private boolean readCore() {
            if (draft.cores.size >= MAX_CORES) {
                return failHere(TOO_MANY);
            }
            tokens.readNext();
            if (!readPlace()) {
                return false;
            }
            if (draft.cores.coreAt(place) != NONE) {
                return failAt(REPEATED, numberStart);
            }
            return readLayers(draft.cores.insertAt(place)) && readSemicolon();
        }

        private boolean readDesign() {
            if (hasDesign) {
                return failHere(REPEATED);
            }
            hasDesign = true;
            tokens.readNext();
            draft.cores.layerCounts[Cores.DESIGN] = 0;
            return readLayers(Cores.DESIGN) && readSemicolon();
        }

        private boolean readLoad() {
            if (draft.loads.size >= MAX_LOADS) {
                return failHere(TOO_MANY);
            }
            tokens.readNext();
            if (!readNumber(0, draft.lanes - 1)) {
                return false;
            }
            int lane = number;
            if (!readNumber(0, draft.stations - 1)) {
                return false;
            }
            int first = number;
            if (!readNumber(first, draft.stations - 1)) {
                return false;
            }
            int last = number;
            if (!readNumber(1, MAX_WEIGHT)) {
                return false;
            }
            int weight = number;
            if (!readNumber(0, MAX_COUNT)) {
                return false;
            }
            int count = number;
            if (!readGrowth()) {
                return false;
            }
            draft.loads.put(lane, first, last, weight, count, number);
            return readSemicolon();
        }

        private boolean readGrowth() {
            if (tokens.isWord("grows")) {
                tokens.readNext();
                return readNumber(0, MAX_GROWTH);
            }
            number = 0;
            return true;
        }

        private boolean readRut() {
            tokens.readNext();
            if (!readPlace() || !readNumber(0, MAX_RUT)) {
                return false;
            }
            draft.ruts[place] = number;
            return readSemicolon();
        }

        private boolean readAmount(int amount) {
            int bit = 1 << amount;
            if ((amountsTold & bit) != 0) {
                return failHere(REPEATED);
            }
            amountsTold |= bit;
            tokens.readNext();
            if (!readNumber(LEAST_AMOUNTS[amount], GREATEST_AMOUNTS[amount])) {
                return false;
            }
            draft.amounts[amount] = number;
            return readSemicolon();
        }

        /** A fifth layer is left for the semicolon that must stand there. */
        private boolean readLayers(int row) {
            for (int layer = 0; layer < MAX_LAYERS; layer++) {
                int kind = kindOfWord();
                if (kind == NONE) {
                    return layer > 0 || failHere(SYNTAX);
                }
                tokens.readNext();
                if (!readNumber(1, MAX_THICKNESS)) {
                    return false;
                }
                draft.cores.putLayer(row, kind, number);
            }
            return true;
        }

        private boolean readPlace() {
            if (!readNumber(0, draft.stations - 1)) {
                return false;
            }
            int station = number;
            if (!readNumber(0, draft.lanes - 1)) {
                return false;
            }
            place = draft.cellAt(station, number);
            return true;
        }

        private boolean readNumber(int least, int greatest) {
            if (tokens.kind != Tokens.NUMBER) {
                return failHere(SYNTAX);
            }
            if (tokens.value < least || tokens.value > greatest) {
                return failHere(OUT_OF_RANGE);
            }
            number = tokens.value;
            numberStart = tokens.start;
            tokens.readNext();
            return true;
        }

        private boolean readSemicolon() {
            if (tokens.kind != Tokens.SEMICOLON) {
                return failHere(SYNTAX);
            }
            tokens.readNext();
            return true;
        }

        private int kindOfWord() {
            if (tokens.isWord("asphalt")) {
                return ASPHALT;
            }
            if (tokens.isWord("binder")) {
                return BINDER;
            }
            if (tokens.isWord("gravel")) {
                return GRAVEL;
            }
            return tokens.isWord("sand") ? SAND : NONE;
        }

        private int amountOfWord() {
            if (tokens.isWord("soft")) {
                return SOFT;
            }
            if (tokens.isWord("limit")) {
                return LIMIT;
            }
            if (tokens.isWord("life")) {
                return LIFE;
            }
            if (tokens.isWord("fill")) {
                return FILL_COST;
            }
            if (tokens.isWord("over")) {
                return OVER_COST;
            }
            if (tokens.isWord("build")) {
                return BUILD_COST;
            }
            return tokens.isWord("money") ? MONEY : NONE;
        }
    }
}
