import java.util.ArrayDeque;
import java.util.ArrayList;
import java.util.Arrays;
import java.util.Comparator;
import java.util.List;
import java.util.Map;
import java.util.NoSuchElementException;
import java.util.TreeMap;
import java.util.regex.Matcher;
import java.util.regex.Pattern;

/**
 * The document once more, written as naively as it goes: every question about years lets whole years pass on a copy.
 * ModelTest compares RoadWear with it. The methods bear the names of the face.
 */
final class Model {
    private static final int[] FACTORS = {44, 30, 14, 8};
    private static final List<String> KINDS = List.of("asphalt", "binder", "gravel", "sand");
    private static final List<String> AMOUNTS = List.of("soft", "limit", "life", "fill", "over", "build", "money");
    private static final int[] LEAST = {1, 10, 1, 0, 0, 0, 0};
    private static final int[] GREATEST = {999, 999, 9999, 999, 999, 9999, 999999};

    /** An error in a setup text. */
    private static final class TextError extends RuntimeException {
        private static final long serialVersionUID = 1;
        final int code;
        final int offset;

        TextError(int code, int offset) {
            super("text");
            this.code = code;
            this.offset = offset;
        }
    }

    private static final class Load {
        int lane, first, last, weight, count, growth;

        Load copy() {
            Load load = new Load();
            load.lane = lane;
            load.first = first;
            load.last = last;
            load.weight = weight;
            load.count = count;
            load.growth = growth;
            return load;
        }
    }

    private static final class State {
        int stations, lanes, year;
        int[] amounts = {10, 150, 100, 1, 5, 100, 1000};
        int[] paid = new int[4];
        List<int[]> design = new ArrayList<>(List.of(new int[] {0, 100}, new int[] {2, 200}));
        TreeMap<Integer, List<int[]>> cores = new TreeMap<>();
        List<Load> loads = new ArrayList<>();
        int[] rut = new int[64];
        int[] overlay = new int[64];
        long[] worn = new long[64];
        boolean[] rebuilt = new boolean[64];
        boolean[] closed = new boolean[4];

        State copy() {
            State s = new State();
            s.stations = stations;
            s.lanes = lanes;
            s.year = year;
            s.amounts = amounts.clone();
            s.paid = paid.clone();
            s.design = new ArrayList<>(design);
            for (Map.Entry<Integer, List<int[]>> core : cores.entrySet()) {
                s.cores.put(core.getKey(), new ArrayList<>(core.getValue()));
            }
            for (Load load : loads) {
                s.loads.add(load.copy());
            }
            s.rut = rut.clone();
            s.overlay = overlay.clone();
            s.worn = worn.clone();
            s.rebuilt = rebuilt.clone();
            s.closed = closed.clone();
            return s;
        }

        int cells() {
            return stations * lanes;
        }

        int distance(int a, int b) {
            return Math.abs(a % stations - b % stations) + 3 * Math.abs(a / stations - b / stations);
        }

        /** The cell of the nearest core, or -1. */
        int nearest(int cell) {
            return cores.keySet().stream().min(Comparator.comparingInt(core -> distance(core, cell))).orElse(-1);
        }

        List<int[]> layers(int cell) {
            return rebuilt[cell] || cores.isEmpty() ? design : cores.get(nearest(cell));
        }

        int strength(int cell) {
            int sum = overlay[cell] * 44;
            for (int[] layer : layers(cell)) {
                sum += FACTORS[layer[0]] * layer[1];
            }
            return sum < 100 ? 1 : sum / 100;
        }

        long capacity(int cell) {
            return (long) strength(cell) * strength(cell) * amounts[2];
        }

        int fails(int cell) {
            return (rut[cell] >= amounts[1] ? 1 : 0) + (worn[cell] >= capacity(cell) ? 2 : 0);
        }

        int laneNow(Load load) {
            int best = -1;
            for (int lane = lanes - 1; lane >= 0; lane--) {
                boolean nearer = best < 0 || Math.abs(lane - load.lane) <= Math.abs(best - load.lane);
                if (!closed[lane] && nearer) {
                    best = lane;
                }
            }
            return best;
        }

        long share(Load load, int cell) {
            int station = cell % stations;
            if (laneNow(load) != cell / stations || station < load.first || station > load.last) {
                return 0;
            }
            long fourth = 1;
            for (int time = 0; time < 4; time++) {
                fourth *= load.weight;
            }
            return load.count * fourth / 10000;
        }

        long base(int cell) {
            long sum = 0;
            for (Load load : loads) {
                sum += share(load, cell);
            }
            return sum;
        }

        long units(int cell) {
            return base(cell) * (1000 + rut[cell]) / 1000;
        }

        void passYear(int from, int to) {
            for (int cell = from; cell <= to; cell++) {
                long units = units(cell);
                long grown = rut[cell] + units * amounts[0] / strength(cell) / strength(cell);
                rut[cell] = (int) (grown > 9999 ? 9999 : grown);
                worn[cell] += units;
            }
            for (Load load : loads) {
                int count = load.count + load.count * load.growth / 100;
                load.count = count > 999999 ? 999999 : count;
            }
            year++;
        }

        /** 61 for none. */
        int years(int cell) {
            State s = copy();
            for (int year = 0; year <= 60; year++) {
                if (s.fails(cell) != 0) {
                    return year;
                }
                s.passYear(cell, cell);
            }
            return 61;
        }

        State after(int years) {
            State s = copy();
            for (int year = 0; year < years; year++) {
                s.passYear(0, cells() - 1);
            }
            return s;
        }

        int leastYears(int from, int to) {
            int least = 61;
            for (int cell = from; cell <= to; cell++) {
                least = Math.min(least, years(cell));
            }
            return least;
        }

        int cost(int kind, int cell, int mm) {
            switch (kind) {
                case 1: return amounts[3] * (int) Math.ceil(rut[cell] / 10.0);
                case 2: return amounts[4] * (int) Math.ceil(mm / 10.0);
                default: return amounts[5];
            }
        }

        int reasonBeyondMoney(int kind, int cell, int mm) {
            if (kind == 1 && rut[cell] == 0) {
                return 2;
            }
            if (kind == 2 && overlay[cell] + mm > 300) {
                return 3;
            }
            boolean asNew = rebuilt[cell] && overlay[cell] == 0 && rut[cell] == 0 && worn[cell] == 0;
            return kind == 3 && asNew ? 4 : 0;
        }

        State patched(int kind, int cell, int mm) {
            State s = copy();
            s.rut[cell] = 0;
            if (kind == 2) {
                s.overlay[cell] += mm;
            }
            if (kind == 3) {
                s.rebuilt[cell] = true;
                s.overlay[cell] = 0;
                s.worn[cell] = 0;
            }
            return s;
        }

        int cheapest(int cell, int years) {
            if (years(cell) > years) {
                return 0;
            }
            int best = -1;
            for (int number : new int[] {3000, 2100, 2090, 2080, 2070, 2060, 2050, 2040, 2030, 2020, 2010, 1000}) {
                int kind = number / 1000;
                int mm = number % 1000;
                boolean good = reasonBeyondMoney(kind, cell, mm) == 0 && patched(kind, cell, mm).years(cell) > years;
                if (good && (best < 0 || cost(kind, cell, mm) <= cost(best / 1000, cell, best % 1000))) {
                    best = number;
                }
            }
            return best;
        }
    }

    private final StringBuilder input = new StringBuilder();
    private int errorCode = 0;
    private int errorOffset = -1;
    private State s = new State();
    private State saved;
    private final ArrayDeque<State> before = new ArrayDeque<>();
    private String output = "";

    // the setup text

    public int appendInput(int a, int b, int c, int d, int e) {
        if (input.length() > 680) {
            return -1;
        }
        for (int four : new int[] {a, b, c, d, e}) {
            for (int shift = 24; shift >= 0; shift -= 8) {
                input.append((char) (four >>> shift & 255));
            }
        }
        return input.length();
    }

    public boolean truncateInput(int length) {
        if (length < 0 || length > input.length()) {
            return false;
        }
        input.setLength(length);
        return true;
    }

    public int loadRoad() {
        String text = input.toString();
        input.setLength(0);
        try {
            s = new Text(text).state();
            saved = null;
            before.clear();
            errorCode = 0;
            errorOffset = -1;
            return s.cells();
        } catch (TextError error) {
            errorCode = error.code;
            errorOffset = error.offset;
            return -1;
        }
    }

    /** A setup text as a list of tokens. */
    private static final class Text {
        private final List<String> tokens = new ArrayList<>();
        private final List<Integer> offsets = new ArrayList<>();
        private final State s = new State();
        private int at;

        Text(String text) {
            Matcher matcher = Pattern.compile("[a-z]+|[0-9]+|[^ \n]", Pattern.DOTALL).matcher(text);
            while (matcher.find()) {
                tokens.add(matcher.group());
                offsets.add(matcher.start());
            }
            tokens.add("");
            offsets.add(text.length());
        }

        private TextError error(int code) {
            return new TextError(code, offsets.get(at));
        }

        private void take(String token) {
            if (!tokens.get(at).equals(token)) {
                throw error(1);
            }
            at++;
        }

        private int number(int least, int greatest) {
            if (!tokens.get(at).matches("[0-9]{1,6}")) {
                throw error(1);
            }
            int number = Integer.parseInt(tokens.get(at));
            if (number < least || number > greatest) {
                throw error(2);
            }
            at++;
            return number;
        }

        private List<int[]> layers() {
            List<int[]> layers = new ArrayList<>();
            do {
                int kind = KINDS.indexOf(tokens.get(at));
                if (kind < 0 || layers.size() == 4) {
                    throw error(1);
                }
                at++;
                layers.add(new int[] {kind, number(1, 500)});
            } while (!tokens.get(at).equals(";"));
            return layers;
        }

        State state() {
            take("road");
            s.stations = number(1, 16);
            s.lanes = number(1, 4);
            take(";");
            List<String> told = new ArrayList<>();
            while (!tokens.get(at).isEmpty()) {
                statement(told);
                take(";");
            }
            return s;
        }

        private void statement(List<String> told) {
            String word = tokens.get(at);
            if (told.contains(word)) {
                throw error(3);
            }
            switch (word) {
                case "core": {
                    if (s.cores.size() == 12) {
                        throw error(4);
                    }
                    at++;
                    int station = number(0, s.stations - 1);
                    int cell = number(0, s.lanes - 1) * s.stations + station;
                    if (s.cores.containsKey(cell)) {
                        at--;
                        throw error(3);
                    }
                    s.cores.put(cell, layers());
                    break;
                }
                case "design": {
                    at++;
                    s.design = layers();
                    told.add(word);
                    break;
                }
                case "load": {
                    if (s.loads.size() == 10) {
                        throw error(4);
                    }
                    at++;
                    Load load = new Load();
                    load.lane = number(0, s.lanes - 1);
                    load.first = number(0, s.stations - 1);
                    load.last = number(load.first, s.stations - 1);
                    load.weight = number(1, 30);
                    load.count = number(0, 999999);
                    if (tokens.get(at).equals("grows")) {
                        at++;
                        load.growth = number(0, 20);
                    }
                    s.loads.add(load);
                    break;
                }
                case "rut": {
                    at++;
                    int station = number(0, s.stations - 1);
                    int cell = number(0, s.lanes - 1) * s.stations + station;
                    s.rut[cell] = number(0, 9999);
                    break;
                }
                default: {
                    int amount = AMOUNTS.indexOf(word);
                    if (amount < 0) {
                        throw error(1);
                    }
                    at++;
                    s.amounts[amount] = number(LEAST[amount], GREATEST[amount]);
                    told.add(word);
                }
            }
        }
    }

    public int errorCode() {
        return errorCode;
    }

    public int errorOffset() {
        return errorOffset;
    }

    // questions

    private void index(int index, int size) {
        if (index < 0 || index >= size) {
            throw new IndexOutOfBoundsException();
        }
    }

    private void range(int value, int least, int greatest) {
        if (value < least || value > greatest) {
            throw new IllegalArgumentException();
        }
    }

    private static int none(int years) {
        return years == 61 ? -1 : years;
    }

    public int count(int what) {
        range(what, 0, 13);
        int failing = 0;
        int rebuilt = 0;
        int closed = 0;
        for (int cell = 0; cell < s.cells(); cell++) {
            failing += s.fails(cell) > 0 ? 1 : 0;
            rebuilt += s.rebuilt[cell] ? 1 : 0;
        }
        for (boolean one : s.closed) {
            closed += one ? 1 : 0;
        }
        return new int[] {s.stations, s.lanes, s.cells(), s.cores.size(), s.loads.size(), s.year, s.amounts[6],
                s.paid[1], s.paid[2], s.paid[3], failing, closed, rebuilt, before.size()}[what];
    }

    public int setting(int what) {
        range(what, 0, 5);
        return s.amounts[what];
    }

    public int cell(int cell, int what) {
        index(cell, s.cells());
        range(what, 0, 8);
        boolean hasCore = !s.rebuilt[cell] && !s.cores.isEmpty();
        int core = hasCore ? s.cores.headMap(s.nearest(cell)).size() : -1;
        int distance = hasCore ? s.distance(cell, s.nearest(cell)) : -1;
        return new int[] {cell % s.stations, cell / s.stations, s.rut[cell], s.overlay[cell], s.rebuilt[cell] ? 1 : 0,
                s.strength(cell), s.layers(cell).size(), core, distance}[what];
    }

    public long worn(int cell) {
        index(cell, s.cells());
        return s.worn[cell];
    }

    public long capacity(int cell) {
        index(cell, s.cells());
        return s.capacity(cell);
    }

    public int layer(int cell, int layer, int what) {
        index(cell, s.cells());
        index(layer, s.layers(cell).size());
        range(what, 0, 1);
        return s.layers(cell).get(layer)[what];
    }

    private int coreCell(int core) {
        return new ArrayList<>(s.cores.keySet()).get(core);
    }

    public int core(int core, int what) {
        index(core, s.cores.size());
        range(what, 0, 2);
        int at = coreCell(core);
        int cells = 0;
        for (int cell = 0; cell < s.cells(); cell++) {
            cells += !s.rebuilt[cell] && s.nearest(cell) == at ? 1 : 0;
        }
        return new int[] {at, s.cores.get(at).size(), cells}[what];
    }

    public int load(int load, int what) {
        index(load, s.loads.size());
        range(what, 0, 6);
        Load l = s.loads.get(load);
        return new int[] {l.lane, l.first, l.last, l.weight, l.count, l.growth, s.laneNow(l)}[what];
    }

    public long base(int cell) {
        index(cell, s.cells());
        return s.base(cell);
    }

    public long baseOf(int load, int cell) {
        index(load, s.loads.size());
        index(cell, s.cells());
        return s.share(s.loads.get(load), cell);
    }

    public int heaviest(int cell) {
        index(cell, s.cells());
        int best = -1;
        for (int load = s.loads.size() - 1; load >= 0; load--) {
            long share = s.share(s.loads.get(load), cell);
            if (share > 0 && (best < 0 || share >= s.share(s.loads.get(best), cell))) {
                best = load;
            }
        }
        return best;
    }

    public long units(int cell) {
        index(cell, s.cells());
        return s.units(cell);
    }

    public int failsBy(int cell) {
        index(cell, s.cells());
        return s.fails(cell);
    }

    public int yearsLeft(int cell) {
        index(cell, s.cells());
        return none(s.years(cell));
    }

    public int nthCell(int index) {
        index(index, s.cells());
        Integer[] cells = new Integer[s.cells()];
        int[] years = new int[s.cells()];
        for (int cell = 0; cell < cells.length; cell++) {
            cells[cell] = cell;
            years[cell] = s.years(cell);
        }
        Arrays.sort(cells, Comparator.comparingInt((Integer cell) -> years[cell]).thenComparingInt(s::strength)
                .thenComparingInt(cell -> cell));
        return cells[index];
    }

    public int laneYears(int lane) {
        index(lane, s.lanes);
        return none(s.leastYears(lane * s.stations, lane * s.stations + s.stations - 1));
    }

    public int firstFailing(int lane) {
        index(lane, s.lanes);
        int least = laneYears(lane);
        for (int station = 0; station < s.stations && least >= 0; station++) {
            if (s.years(lane * s.stations + station) == least) {
                return station;
            }
        }
        return -1;
    }

    public int failing(int years) {
        range(years, 1, 60);
        int number = 0;
        for (int cell = 0; cell < s.cells(); cell++) {
            number += s.years(cell) <= years ? 1 : 0;
        }
        return number;
    }

    public int rutIn(int cell, int years) {
        index(cell, s.cells());
        range(years, 1, 60);
        return s.after(years).rut[cell];
    }

    public long wornIn(int cell, int years) {
        index(cell, s.cells());
        range(years, 1, 60);
        return s.after(years).worn[cell];
    }

    public int countIn(int load, int years) {
        index(load, s.loads.size());
        range(years, 1, 60);
        return s.after(years).loads.get(load).count;
    }

    public int yearsWith(int cell, int percent) {
        index(cell, s.cells());
        range(percent, 0, 900);
        State more = s.copy();
        for (Load load : more.loads) {
            load.count = (int) Math.min(999999L, load.count * (100L + percent) / 100);
        }
        return none(more.years(cell));
    }

    public int yearsIfClosed(int lane, int other) {
        index(lane, s.lanes);
        index(other, s.lanes);
        State closed = s.copy();
        closed.closed[other] = true;
        return none(closed.leastYears(lane * s.stations, lane * s.stations + s.stations - 1));
    }

    public int safestClosing() {
        int best = -1;
        int most = -1;
        for (int lane = 0; lane < s.lanes; lane++) {
            State closed = s.copy();
            closed.closed[lane] = true;
            int least = closed.leastYears(0, s.cells() - 1);
            if (!s.closed[lane] && least > most) {
                most = least;
                best = lane;
            }
        }
        return best;
    }

    public int weakest() {
        if (s.cells() == 0) {
            throw new NoSuchElementException();
        }
        int best = 0;
        for (int cell = 0; cell < s.cells(); cell++) {
            best = s.strength(cell) < s.strength(best) ? cell : best;
        }
        return best;
    }

    public int discardTells(int core) {
        index(core, s.cores.size());
        State without = s.copy();
        without.cores.remove(coreCell(core));
        int sum = 0;
        for (int cell = 0; cell < s.cells(); cell++) {
            sum += Math.abs(s.strength(cell) - without.strength(cell));
        }
        return sum;
    }

    public int nextCore() {
        int best = -1;
        int most = 0;
        for (int cell = 0; cell < s.cells(); cell++) {
            int distance = s.cores.isEmpty() ? 1 : s.distance(cell, s.nearest(cell));
            if (!s.rebuilt[cell] && distance > most) {
                most = distance;
                best = cell;
            }
        }
        return best;
    }

    private void checkPatch(int kind, int cell, int mm) {
        index(cell, s.cells());
        range(kind, 1, 3);
        if (kind == 2) {
            range(mm, 10, 100);
        }
    }

    public int cost(int kind, int cell, int mm) {
        checkPatch(kind, cell, mm);
        return s.cost(kind, cell, mm);
    }

    public int whyNot(int kind, int cell, int mm) {
        checkPatch(kind, cell, mm);
        return s.cost(kind, cell, mm) > s.amounts[6] ? 1 : s.reasonBeyondMoney(kind, cell, mm);
    }

    public int yearsBehind(int kind, int cell, int mm) {
        checkPatch(kind, cell, mm);
        return none(s.patched(kind, cell, mm).years(cell));
    }

    public int cheapest(int cell, int years) {
        index(cell, s.cells());
        range(years, 1, 60);
        return s.cheapest(cell, years);
    }

    public int planCost(int years) {
        range(years, 1, 60);
        int sum = 0;
        for (int cell = 0; cell < s.cells(); cell++) {
            int patch = s.cheapest(cell, years);
            if (patch < 0) {
                return -1;
            }
            sum += patch == 0 ? 0 : s.cost(patch / 1000, cell, patch % 1000);
        }
        return sum;
    }

    public double meanRut(int lane) {
        index(lane, s.lanes);
        int sum = 0;
        for (int station = 0; station < s.stations; station++) {
            sum += s.rut[lane * s.stations + station];
        }
        return (double) sum / (double) s.stations;
    }

    public float wornShare(int cell) {
        index(cell, s.cells());
        return (float) s.worn[cell] / (float) s.capacity(cell);
    }

    // changes

    private void keep() {
        before.addLast(s.copy());
        if (before.size() > 8) {
            before.removeFirst();
        }
    }

    public int pass(int years) {
        range(years, 1, 60);
        if (s.cells() == 0 || s.year + years > 500) {
            throw new IllegalStateException();
        }
        keep();
        s = s.after(years);
        return count(10);
    }

    public int drill(int cell, int kind, int mm) {
        index(cell, s.cells());
        range(kind, 0, 3);
        range(mm, 1, 500);
        if (s.cores.containsKey(cell) || s.cores.size() == 12) {
            throw new IllegalStateException();
        }
        keep();
        s.cores.put(cell, new ArrayList<>(List.of(new int[] {kind, mm})));
        return s.cores.headMap(cell).size();
    }

    public int addLayer(int core, int kind, int mm) {
        index(core, s.cores.size());
        range(kind, 0, 3);
        range(mm, 1, 500);
        List<int[]> layers = s.cores.get(coreCell(core));
        if (layers.size() == 4) {
            throw new IllegalStateException();
        }
        keep();
        layers.add(new int[] {kind, mm});
        return layers.size();
    }

    public int discard(int core) {
        index(core, s.cores.size());
        keep();
        s.cores.remove(coreCell(core));
        return s.cores.size();
    }

    public int measure(int cell, int rut) {
        index(cell, s.cells());
        range(rut, 0, 9999);
        keep();
        int old = s.rut[cell];
        s.rut[cell] = rut;
        return old;
    }

    public int addLoad(int lane, int first, int last, int weight, int count, int growth) {
        index(lane, s.lanes);
        index(first, s.stations);
        index(last, s.stations);
        range(last, first, 15);
        range(weight, 1, 30);
        range(count, 0, 999999);
        range(growth, 0, 20);
        if (s.loads.size() == 10) {
            throw new IllegalStateException();
        }
        keep();
        Load load = new Load();
        load.lane = lane;
        load.first = first;
        load.last = last;
        load.weight = weight;
        load.count = count;
        load.growth = growth;
        s.loads.add(load);
        return s.loads.size() - 1;
    }

    public int removeLoad(int load) {
        index(load, s.loads.size());
        keep();
        s.loads.remove(load);
        return s.loads.size();
    }

    public int setCount(int load, int count) {
        index(load, s.loads.size());
        range(count, 0, 999999);
        keep();
        int old = s.loads.get(load).count;
        s.loads.get(load).count = count;
        return old;
    }

    public boolean close(int lane, boolean closed) {
        index(lane, s.lanes);
        keep();
        boolean old = s.closed[lane];
        s.closed[lane] = closed;
        return old;
    }

    public int patch(int kind, int cell, int mm) {
        int reason = whyNot(kind, cell, mm);
        if (reason != 0) {
            return -reason;
        }
        keep();
        int cost = s.cost(kind, cell, mm);
        s = s.patched(kind, cell, mm);
        s.amounts[6] -= cost;
        s.paid[kind] += cost;
        return cost;
    }

    public int set(int what, int value) {
        range(what, 0, 5);
        range(value, LEAST[what], GREATEST[what]);
        keep();
        int old = s.amounts[what];
        s.amounts[what] = value;
        return old;
    }

    public int give(int money) {
        range(money, 1, 999999);
        keep();
        s.amounts[6] = Math.min(999999, s.amounts[6] + money);
        return s.amounts[6];
    }

    public int undo() {
        if (before.isEmpty()) {
            throw new IllegalStateException();
        }
        s = before.removeLast();
        return before.size();
    }

    // the output and the saved state

    public int printCell(int cell) {
        index(cell, s.cells());
        List<String> parts = new ArrayList<>();
        for (int[] layer : s.layers(cell)) {
            parts.add("abgs".substring(layer[0], layer[0] + 1) + layer[1]);
        }
        output = String.join("+", parts) + (s.overlay[cell] > 0 ? "-" + s.overlay[cell] : "")
                + (s.rebuilt[cell] ? "*" : "");
        return output.length();
    }

    public int printLane(int lane) {
        index(lane, s.lanes);
        List<String> parts = new ArrayList<>();
        for (int station = 0; station < s.stations; station++) {
            int years = s.years(lane * s.stations + station);
            parts.add(years == 61 ? "#" : String.valueOf(years));
        }
        output = String.join(" ", parts);
        return output.length();
    }

    public int printLoads() {
        List<String> parts = new ArrayList<>();
        for (Load l : s.loads) {
            parts.add(l.lane + ":" + l.first + "-" + l.last + "x" + l.weight + "*" + l.count
                    + (l.growth == 0 ? "" : "+" + l.growth));
        }
        output = parts.isEmpty() ? "-" : String.join(" ", parts);
        return output.length();
    }

    public int outputByte(int index) {
        return index < 0 || index >= output.length() ? -1 : output.charAt(index);
    }

    public int saveState() {
        saved = s.copy();
        return s.year;
    }

    public int restoreState() {
        if (saved == null) {
            throw new IllegalStateException();
        }
        s = saved.copy();
        before.clear();
        return s.year;
    }
}
