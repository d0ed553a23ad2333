import java.io.IOException;
import java.nio.charset.StandardCharsets;
import java.nio.file.Files;
import java.nio.file.Path;
import java.util.Set;
import java.util.TreeSet;

/** What the tests of the project share: answers that are due, exceptions that are due, and roads made of texts. */
final class Check {
    /** A call that may throw. */
    interface Call {
        Object answer();
    }

    static final Class<IndexOutOfBoundsException> INDEX = IndexOutOfBoundsException.class;
    static final Class<IllegalArgumentException> ARGUMENT = IllegalArgumentException.class;
    static final Class<IllegalStateException> STATE = IllegalStateException.class;

    static final Class<?> NOTHING = java.util.NoSuchElementException.class;

    private static final Set<Integer> PROMISES = new TreeSet<>();
    private static String about = "";
    private static int checksAhead;
    private static int checks;
    private static int wrong;
    private static String document;

    private Check() {
    }

    /** Names the promise to which the next checks belong. */
    static void promise(int number) {
        about = "promise " + number;
    }

    /** Names the sentence of a promise to which the next checks belong; promise 0 stands for the terms. */
    static void sentence(int promise, String words) {
        mustHaveChecks();
        PROMISES.add(promise);
        checksAhead = checks;
        about = (promise == 0 ? "terms" : "promise " + promise) + ", \"" + words + "\"";
        if (!document().isEmpty() && !document().contains(words)) {
            // no failure: the document may be a later one than the test
            System.out.println("notice: the document does not say " + about);
        }
    }

    /** A sentence without a check of its own would only look tested. */
    private static void mustHaveChecks() {
        if (!PROMISES.isEmpty() && checks == checksAhead) {
            wrong++;
            System.out.println(about + " has no check");
        }
    }

    static Set<Integer> promisesWithSentences() {
        return PROMISES;
    }

    private static String document() {
        if (document == null) {
            try {
                document = Files.readString(Path.of("../shared/DOC.md")).replaceAll("\\s+", " ");
            } catch (IOException e) {
                document = "";
            }
        }
        return document;
    }

    static void due(String what, Object got, Object want) {
        checks++;
        if (!want.equals(got)) {
            wrong++;
            System.out.println(about + ": " + what + " answered " + got + ", due is " + want);
        }
    }

    static void throwing(String what, Class<?> want, Call call) {
        String got;
        try {
            got = "the answer " + call.answer();
        } catch (RuntimeException e) {
            got = e.getClass().getName();
        }
        due(what, got, want.getName());
    }

    /** Ends the test: with exit code 1 if an answer was wrong. */
    static void finish(String name) {
        mustHaveChecks();
        System.out.println(name + ": " + checks + " checks, " + wrong + " wrong");
        if (wrong != 0 || checks == 0) {
            System.exit(1);
        }
    }

    /** Puts a text into the input buffer. */
    static void append(RoadWear road, String text) {
        byte[] bytes = text.getBytes(StandardCharsets.ISO_8859_1);
        int length = 0;
        for (int at = 0; at < bytes.length; at += 20) {
            int[] fours = new int[5];
            for (int index = 0; index < 20; index++) {
                int sign = at + index < bytes.length ? bytes[at + index] & 255 : ' ';
                fours[index / 4] = fours[index / 4] << 8 | sign;
            }
            length = road.appendInput(fours[0], fours[1], fours[2], fours[3], fours[4]);
        }
        road.truncateInput(length - (bytes.length + 19) / 20 * 20 + bytes.length);
    }

    static int load(RoadWear road, String text) {
        append(road, text);
        return road.loadRoad();
    }

    static RoadWear road(String text) {
        RoadWear road = new RoadWear();
        if (load(road, text) < 0) {
            wrong++;
            System.out.println(about + ": error " + road.errorCode() + " at " + road.errorOffset() + " in: " + text);
        }
        return road;
    }

    /** A text that has an error, on a new object. */
    static void error(String text, int code, int offset) {
        RoadWear road = new RoadWear();
        due("loadRoad of " + text, load(road, text), -1);
        due("errorCode of " + text, road.errorCode(), code);
        due("errorOffset of " + text, road.errorOffset(), offset);
    }

    /** A text that has none. */
    static void good(String text, int cells) {
        RoadWear road = new RoadWear();
        due("loadRoad of " + text, load(road, text), cells);
        due("errorCode of " + text, road.errorCode(), RoadWear.NO_ERROR);
        due("errorOffset of " + text, road.errorOffset(), -1);
    }

    /** The output, as a text. */
    static String output(RoadWear road) {
        StringBuilder text = new StringBuilder();
        for (int index = 0; road.outputByte(index) >= 0; index++) {
            text.append((char) road.outputByte(index));
        }
        return text.toString();
    }
}
