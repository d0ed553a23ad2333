import java.nio.charset.StandardCharsets;

/** What the tests of the project share: answers that are due, exceptions that are due, and roads made of texts. */
final class Check {
    /** A call that may throw. */
    interface Call {
        Object answer();
    }

    static final Class<IndexOutOfBoundsException> INDEX = IndexOutOfBoundsException.class;
    static final Class<IllegalArgumentException> ARGUMENT = IllegalArgumentException.class;
    static final Class<IllegalStateException> STATE = IllegalStateException.class;

    private static int promise;
    private static int checks;
    private static int wrong;

    private Check() {
    }

    /** Names the promise to which the next checks belong. */
    static void promise(int number) {
        promise = number;
    }

    static void due(String what, Object got, Object want) {
        checks++;
        if (!want.equals(got)) {
            wrong++;
            System.out.println("promise " + promise + ": " + what + " answered " + got + ", due is " + want);
        }
    }

    static void throwing(String what, Class<?> want, Call call) {
        String got;
        try {
            got = "the answer " + call.answer();
        } catch (RuntimeException e) {
            got = e.getClass().getName();
        }
        due(what, got, want.getName());
    }

    /** Ends the test: with exit code 1 if an answer was wrong. */
    static void finish(String name) {
        System.out.println(name + ": " + checks + " checks, " + wrong + " wrong");
        if (wrong != 0 || checks == 0) {
            System.exit(1);
        }
    }

    /** Puts a text into the input buffer. */
    static void append(RoadWear road, String text) {
        byte[] bytes = text.getBytes(StandardCharsets.ISO_8859_1);
        int length = 0;
        for (int at = 0; at < bytes.length; at += 20) {
            int[] fours = new int[5];
            for (int index = 0; index < 20; index++) {
                int sign = at + index < bytes.length ? bytes[at + index] & 255 : ' ';
                fours[index / 4] = fours[index / 4] << 8 | sign;
            }
            length = road.appendInput(fours[0], fours[1], fours[2], fours[3], fours[4]);
        }
        road.truncateInput(length - (bytes.length + 19) / 20 * 20 + bytes.length);
    }

    static int load(RoadWear road, String text) {
        append(road, text);
        return road.loadRoad();
    }

    static RoadWear road(String text) {
        RoadWear road = new RoadWear();
        if (load(road, text) < 0) {
            wrong++;
            System.out.println("promise " + promise + ": error " + road.errorCode() + " at " + road.errorOffset()
                    + " in: " + text);
        }
        return road;
    }

    /** The output, as a text. */
    static String output(RoadWear road) {
        StringBuilder text = new StringBuilder();
        for (int index = 0; road.outputByte(index) >= 0; index++) {
            text.append((char) road.outputByte(index));
        }
        return text.toString();
    }
}
