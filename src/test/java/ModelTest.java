import java.lang.reflect.InvocationTargetException;
import java.lang.reflect.Method;
import java.util.ArrayList;
import java.util.Arrays;
import java.util.Comparator;
import java.util.List;

/** Long runs of calls on RoadWear and on Model, which must answer alike. The runs are the same each time. */
public final class ModelTest {
    private static final String[] KINDS = {"asphalt", "binder", "gravel", "sand"};
    private static final String[] WORDS = {"road", "core", "design", "load", "rut", "soft", "limit", "life", "money",
            "fill", "over", "build", "grows", "asphalt", "sand", ";", "7", "1000000", "0000001", "A", "-", "é", "\t", "x"};

    private static long seed = 1;
    private static int wrong = 0;
    /** Calls of the object in use: the document promises 512. */
    private static int calls = 0;

    private static int below(int bound) {
        seed = seed * 6364136223846793005L + 1442695040888963407L;
        return (int) ((seed >>> 33) % bound);
    }

    private static int between(int least, int greatest) {
        return least + below(greatest - least + 1);
    }

    private static boolean chance(int percent) {
        return below(100) < percent;
    }

    public static void main(String[] args) throws Exception {
        Method[] methods = RoadWear.class.getDeclaredMethods();
        List<Method> face = new ArrayList<>();
        for (Method method : methods) {
            if (java.lang.reflect.Modifier.isPublic(method.getModifiers())) {
                face.add(method);
            }
        }
        face.sort(Comparator.comparing(Method::getName));
        int runs = args.length > 0 ? Integer.parseInt(args[0]) : 250;
        for (int run = 0; run < runs && wrong == 0; run++) {
            seed = run;
            play(run, face);
        }
        texts(args.length > 0 ? 50000 : 5000);
        edges(face);
        System.out.println("ModelTest: " + wrong + " wrong");
        if (wrong != 0) {
            System.exit(1);
        }
    }

    /** Texts alone, many of them wrong. */
    private static void texts(int number) throws Exception {
        Method load = RoadWear.class.getMethod("loadRoad");
        for (int text = 0; text < number && wrong == 0; text++) {
            seed = 1000000 + text;
            RoadWear road = new RoadWear();
            Model model = new Model();
            calls = 0;
            boolean small = chance(50);
            String setup = spoiled(setup(small));
            List<String> told = new ArrayList<>();
            told.add(setup);
            append(road, model, setup);
            compare(text, told, load, road, model);
            compare(text, told, RoadWear.class.getMethod("errorCode"), road, model);
            compare(text, told, RoadWear.class.getMethod("errorOffset"), road, model);
            compare(text, told, RoadWear.class.getMethod("printLoads"), road, model);
            for (int what = 0; what < 14; what++) {
                compare(text, told, RoadWear.class.getMethod("count", int.class), road, model, what);
            }
            for (int turn = 0; turn < Math.min(12, model.count(2)); turn++) {
                int cell = model.count(2) < 13 ? turn : below(model.count(2));
                compare(text, told, RoadWear.class.getMethod("printCell", int.class), road, model, cell);
                for (int index = 0; index < 30; index++) {
                    compare(text, told, RoadWear.class.getMethod("outputByte", int.class), road, model, index);
                }
            }
        }
    }

    private static final int[] MANY_EDGES = {Integer.MIN_VALUE, -2, -1, 0, 1, 2, 3, 4, 5, 6, 7, 8, 9, 10, 11, 12, 13, 14, 15,
        16, 20, 21, 30, 31, 59, 60, 61, 63, 64, 99, 100, 101, 149, 150, 300, 301, 499, 500, 501, 680, 700, 701, 900, 901, 999,
        1000, 9998, 9999, 10000, 999998, 999999, 1000000, Integer.MAX_VALUE - 1, Integer.MAX_VALUE};
    private static final int[] SOME_EDGES = {Integer.MIN_VALUE, -1, 0, 1, 2, 3, 4, 9, 10, 12, 16, 60, 61, 64, 100, 101, 500,
        501, 900, 901, 999, 1000, 9999, 10000, 999999, 1000000, Integer.MAX_VALUE};
    private static final int[] FEW_EDGES = {Integer.MIN_VALUE, -1, 0, 1, 2, 3, 4, 9, 10, 64, 100, 101, 500, 501,
        Integer.MAX_VALUE};

    /** A road and its model, to be made anew behind a change, so that each call finds the same state. */
    private static final class Pair {
        final RoadWear road = new RoadWear();
        final Model model = new Model();
        final List<String> told = new ArrayList<>();

        Pair(String text, int years) {
            if (!text.isEmpty()) {
                told.add(text);
                append(road, model, text);
                due(road.loadRoad(), model.loadRoad());
            }
            for (int year = 0; year < years; year += 50) {
                told.add("pass(50)");
                due(road.pass(50), model.pass(50));
            }
            // so that a change is seen by the number of those that can be undone
            told.add("saveState, restoreState");
            due(road.saveState(), model.saveState());
            due(road.restoreState(), model.restoreState());
        }
    }

    /** Each method with numbers at all edges, in all combinations, on roads from none to the greatest one. */
    private static void edges(List<Method> face) throws Exception {
        StringBuilder full = new StringBuilder("road 16 4;design sand 1 sand 2 sand 3 gravel 4;");
        for (int core = 0; core < 12; core++) {
            full.append("core ").append(core).append(" 3 sand 1").append(core == 0 ? " sand 2 sand 3 sand 4;" : ";");
        }
        for (int load = 0; load < 10; load++) {
            full.append("load 3 0 15 9 ").append(load).append("99;");
        }
        String some = "road 2 2;core 0 0 sand 100;core 1 1 asphalt 50 gravel 60;design asphalt 20 sand 15;"
                + "load 0 0 1 10 100 grows 5;load 1 1 1 20 90;rut 1 0 40;life 9;money 500;";
        for (Method method : face) {
            edges(method, "", 0);
            edges(method, "road 1 1;", 0);
            edges(method, some, 0);
            edges(method, some, 500);
            edges(method, full.toString(), 0);
        }
    }

    private static void edges(Method method, String text, int years) throws Exception {
        int parameters = method.getParameterCount();
        if (parameters > 3) {
            edgesByTwo(method, text, years);
            return;
        }
        int[] values = parameters < 2 ? MANY_EDGES : parameters == 2 ? SOME_EDGES : FEW_EDGES;
        int combinations = 1;
        for (int parameter = 0; parameter < parameters; parameter++) {
            combinations *= values.length;
        }
        Pair pair = new Pair(text, years);
        for (int combination = 0; combination < combinations && wrong == 0; combination++) {
            Object[] arguments = new Object[parameters];
            int rest = combination;
            for (int parameter = 0; parameter < parameters; parameter++) {
                arguments[parameter] = argument(method, parameter, values[rest % values.length]);
                rest /= values.length;
            }
            pair = compareAlone(pair, method, text, years, arguments);
        }
    }

    /** With more parameters: all combinations of any two of them. */
    private static void edgesByTwo(Method method, String text, int years) throws Exception {
        int parameters = method.getParameterCount();
        Pair pair = new Pair(text, years);
        for (int one = 0; one < parameters; one++) {
            for (int other = one + 1; other < parameters; other++) {
                for (int index = 0; index < SOME_EDGES.length * SOME_EDGES.length && wrong == 0; index++) {
                    Object[] arguments = new Object[parameters];
                    Arrays.fill(arguments, 1);
                    arguments[one] = SOME_EDGES[index % SOME_EDGES.length];
                    arguments[other] = SOME_EDGES[index / SOME_EDGES.length];
                    pair = compareAlone(pair, method, text, years, arguments);
                }
            }
        }
    }

    private static Object argument(Method method, int parameter, int value) {
        return method.getParameterTypes()[parameter] == boolean.class ? (Object) (value % 2 == 0) : (Object) value;
    }

    private static Pair compareAlone(Pair pair, Method method, String text, int years, Object[] arguments) throws Exception {
        int changes = pair.model.count(13);
        compare(-1, pair.told, method, pair.road, pair.model, arguments);
        compare(-1, pair.told, RoadWear.class.getMethod("count", int.class), pair.road, pair.model, 13);
        boolean touched = pair.model.count(13) != changes || method.getName().endsWith("Input");
        return touched || pair.told.size() > 400 ? new Pair(text, years) : pair;
    }

    private static void play(int run, List<Method> face) throws Exception {
        RoadWear road = new RoadWear();
        Model model = new Model();
        calls = 0;
        List<String> told = new ArrayList<>();
        boolean small = chance(70);
        Method load = RoadWear.class.getMethod("loadRoad");
        if (chance(95)) {
            String text = setup(small);
            told.add(text);
            append(road, model, text);
            compare(run, told, load, road, model);
        }
        while (calls < 460 && wrong == 0) {
            Method method = face.get(below(face.size()));
            String name = method.getName();
            boolean rare = name.equals("discard") || name.equals("removeLoad") || name.equals("restoreState")
                    || name.equals("close") || name.equals("undo") || name.equals("pass") || name.equals("measure");
            if (rare && chance(60)) {
                continue;
            }
            if (name.equals("loadRoad") || name.equals("appendInput") || name.equals("truncateInput")) {
                if (chance(20)) {
                    String text = setup(small);
                    String put = chance(60) ? spoiled(text) : text;
                    told.add(put);
                    append(road, model, put);
                    compare(run, told, load, road, model);
                    compare(run, told, RoadWear.class.getMethod("errorCode"), road, model);
                    compare(run, told, RoadWear.class.getMethod("errorOffset"), road, model);
                }
                continue;
            }
            compare(run, told, method, road, model, arguments(method, model));
            if (name.startsWith("print")) {
                for (int index = -1; index < 3; index++) {
                    compare(run, told, RoadWear.class.getMethod("outputByte", int.class), road, model, below(220) - 1);
                }
            }
        }
    }

    private static void append(RoadWear road, Model model, String text) {
        byte[] bytes = Arrays.copyOf(text.getBytes(java.nio.charset.StandardCharsets.ISO_8859_1),
                (text.length() + 19) / 20 * 20);
        road.truncateInput(0);
        model.truncateInput(0);
        calls += 2 + bytes.length / 20;
        for (int at = 0; at < bytes.length; at += 20) {
            int[] fours = new int[5];
            for (int index = 0; index < 20; index++) {
                fours[index / 4] = fours[index / 4] << 8 | bytes[at + index] & 255;
            }
            due(road.appendInput(fours[0], fours[1], fours[2], fours[3], fours[4]),
                    model.appendInput(fours[0], fours[1], fours[2], fours[3], fours[4]));
        }
        due(road.truncateInput(text.length()), model.truncateInput(text.length()));
    }

    private static void due(Object got, Object want) {
        if (!got.equals(want)) {
            wrong++;
            System.out.println("the input buffer answered " + got + ", due is " + want);
        }
    }

    /** A number that is mostly below a bound, and now and then at an edge or far off. */
    private static int index(int bound) {
        if (chance(6)) {
            int[] edges = {-1, bound, bound + 1, Integer.MAX_VALUE, Integer.MIN_VALUE};
            return edges[below(edges.length)];
        }
        return bound < 1 ? 0 : below(bound);
    }

    private static int value(int least, int greatest) {
        if (chance(8)) {
            int[] edges = {least - 1, greatest + 1, Integer.MAX_VALUE, Integer.MIN_VALUE};
            return edges[below(edges.length)];
        }
        if (chance(10)) {
            return chance(50) ? least : greatest;
        }
        return between(least, greatest);
    }

    private static Object[] arguments(Method method, Model model) {
        int lanes = model.count(1);
        int stations = model.count(0);
        int cells = model.count(2);
        int cores = model.count(3);
        int loads = model.count(4);
        int years = chance(70) ? value(1, 8) : value(1, 60);
        int patch = value(1, 3);
        int mm = chance(10) ? value(-5, 105) : value(10, 100);
        int thickness = chance(80) ? value(1, 60) : value(1, 500);
        switch (method.getName()) {
            case "count": return new Object[] {value(0, 13)};
            case "setting": return new Object[] {value(0, 5)};
            case "cell": return new Object[] {index(cells), value(0, 8)};
            case "layer": return new Object[] {index(cells), index(3), value(0, 1)};
            case "core": return new Object[] {index(cores), value(0, 2)};
            case "load": return new Object[] {index(loads), value(0, 6)};
            case "baseOf": return new Object[] {index(loads), index(cells)};
            case "nthCell": return new Object[] {index(cells)};
            case "laneYears":
            case "firstFailing":
            case "meanRut":
            case "printLane": return new Object[] {index(lanes)};
            case "failing":
            case "planCost":
            case "pass": return new Object[] {years};
            case "rutIn":
            case "wornIn":
            case "cheapest": return new Object[] {index(cells), years};
            case "countIn": return new Object[] {index(loads), years};
            case "yearsWith": return new Object[] {index(cells), value(0, 900)};
            case "yearsIfClosed": return new Object[] {index(lanes), index(lanes)};
            case "discardTells":
            case "discard": return new Object[] {index(cores)};
            case "cost":
            case "whyNot":
            case "yearsBehind":
            case "patch": return new Object[] {patch, index(cells), mm};
            case "drill": return new Object[] {index(cells), value(0, 3), thickness};
            case "addLayer": return new Object[] {index(cores), value(0, 3), thickness};
            case "measure": return new Object[] {index(cells), chance(80) ? value(0, 200) : value(0, 9999)};
            case "addLoad": return new Object[] {index(lanes), index(stations), index(stations), value(1, 30),
                    chance(70) ? value(0, 3000) : value(0, 999999), value(0, 20)};
            case "removeLoad": return new Object[] {index(loads)};
            case "setCount": return new Object[] {index(loads), chance(70) ? value(0, 3000) : value(0, 999999)};
            case "close": return new Object[] {index(lanes), chance(50)};
            case "set": {
                int what = value(0, 5);
                int[] usual = {100, 300, 2000, 20, 20, 300};
                return new Object[] {what, what >= 0 && what < 6 ? value(0, usual[what]) : 1};
            }
            case "give": return new Object[] {chance(80) ? value(1, 500) : value(1, 999999)};
            case "outputByte": return new Object[] {index(230)};
            default:
                return method.getParameterCount() == 1 ? new Object[] {index(cells)} : new Object[0];
        }
    }

    private static void compare(int run, List<String> told, Method method, RoadWear road, Model model,
            Object... arguments) throws Exception {
        Method other = Model.class.getMethod(method.getName(), method.getParameterTypes());
        other.setAccessible(true);
        calls++;
        String got = answer(method, road, arguments);
        String want = answer(other, model, arguments);
        told.add(method.getName() + Arrays.toString(arguments) + " = " + want);
        if (!got.equals(want)) {
            wrong++;
            System.out.println("run " + run + ", answered " + got + ", due is the last of:");
            told.forEach(System.out::println);
        }
    }

    private static String answer(Method method, Object target, Object[] arguments) throws Exception {
        try {
            return String.valueOf(method.invoke(target, arguments));
        } catch (InvocationTargetException e) {
            return "throws " + e.getCause().getClass().getSimpleName();
        }
    }

    private static String setup(boolean small) {
        int stations = small ? between(1, 4) : between(1, 16);
        int lanes = small ? between(1, 3) : between(1, 4);
        StringBuilder text = new StringBuilder("road " + stations + " " + lanes + ";");
        List<String> parts = new ArrayList<>();
        int cores = chance(20) ? 0 : chance(20) ? between(0, 14) : between(1, 5);
        List<Integer> cells = new ArrayList<>();
        for (int core = 0; core < cores; core++) {
            int station = below(stations);
            int lane = below(lanes);
            if (!cells.contains(lane * 16 + station) || chance(2)) {
                cells.add(lane * 16 + station);
                parts.add("core " + station + " " + lane + layers());
            }
        }
        int loads = chance(10) ? between(0, 12) : between(1, 5);
        for (int load = 0; load < loads; load++) {
            int first = below(stations);
            int last = chance(98) ? between(first, stations - 1) : below(stations);
            parts.add("load " + below(lanes) + " " + first + " " + last + " " + between(1, 30) + " "
                    + (chance(80) ? between(0, 2000) : between(0, 999999))
                    + (chance(60) ? " grows " + between(0, 20) : ""));
        }
        for (int rut = between(0, 5); rut > 0; rut--) {
            parts.add("rut " + below(stations) + " " + below(lanes) + " " + (chance(80) ? below(160) : below(10000)));
        }
        if (chance(50)) {
            parts.add("design" + layers());
        }
        optional(parts, "soft", 1, 999);
        optional(parts, "limit", 10, 999);
        optional(parts, "life", 1, 9999);
        optional(parts, "money", 0, 3000);
        optional(parts, "fill", 0, 50);
        optional(parts, "over", 0, 30);
        optional(parts, "build", 0, 400);
        while (!parts.isEmpty()) {
            String part = parts.remove(below(parts.size()));
            if (text.length() + part.length() < 690) {
                text.append(chance(10) ? "\n " : "").append(part).append(chance(5) ? " ;" : ";");
            }
        }
        return text.toString();
    }

    private static void optional(List<String> parts, String word, int least, int greatest) {
        if (chance(50)) {
            parts.add(word + " " + between(least, greatest));
        }
        if (chance(1)) {
            parts.add(word + " " + between(least, greatest));
        }
    }

    private static String layers() {
        StringBuilder text = new StringBuilder();
        for (int layer = chance(1) ? between(4, 5) : between(1, 4); layer > 0; layer--) {
            int mm = chance(80) ? between(1, 60) : between(1, 500);
            text.append(" ").append(KINDS[below(4)]).append(" ").append(mm);
        }
        return text.toString();
    }

    private static String spoiled(String setup) {
        String text = setup;
        for (int times = below(3); times > 0; times--) {
            List<String> tokens = new ArrayList<>(Arrays.asList(text.split("(?<=[ ;])|(?=[ ;])")));
            int at = below(tokens.size());
            int way = below(5);
            if (way == 0) {
                tokens.remove(at);
            } else if (way == 1) {
                tokens.add(at, WORDS[below(WORDS.length)]);
            } else if (way == 2) {
                tokens.set(at, WORDS[below(WORDS.length)]);
            } else if (way == 3) {
                tokens.add(at, tokens.get(below(tokens.size())));
            } else {
                tokens.subList(at, tokens.size()).clear();
            }
            text = String.join("", tokens);
        }
        return text.length() > 700 ? text.substring(0, 700) : text;
    }
}
