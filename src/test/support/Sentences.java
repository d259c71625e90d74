import java.io.IOException;
import java.nio.file.Files;
import java.nio.file.Path;
import java.util.ArrayList;
import java.util.List;
import java.util.regex.Matcher;
import java.util.regex.Pattern;

/**
 * Holds sentences of the document against calls. A test gives a sentence, as it stands in a section of the document,
 * and calls, one to a line, on a new object:
 *
 *     begin 0 = 1             the answer that is due
 *     begin 3 ! Index         the exception that is due: Index, Argument or State
 *     begin 0                 any answer, but no exception
 *     40 * write 0 1 5        the same call again and again
 *     cell 0..15 0 = 0        a call for each number of a range; of several ranges, for each pair
 *     begin -1,3,min,max      a call for each number of a list; min and max are the ends of int, or of long
 *     type Wb0                a call of append for each character
 *     text Wb3 = 2            a new object, type, and errorPosition() with its answer
 *     story Wb0 = 0           clearText(), type, and load() with its answer
 *     new                     a new object
 *     // why                  nothing
 */
final class Sentences {
    private static final Path DOCUMENT = Path.of("../shared/DOC.md");
    private static final int MOST_CALLS = 512;
    // One more than can be remembered.
    private static final int MOST_UNDONE = 15;
    private static final Pattern REPEAT = Pattern.compile("(\\d+) \\* (.+)");
    private static final Pattern DUE = Pattern.compile("(.*?)(?: ([=!]) (\\S+))?");
    private static final Pattern RANGE = Pattern.compile("(-?\\d+)\\.\\.(-?\\d+)");
    private static final String SHORT_LOOK = """
        about 0..9
        cell 0..15 0..2
        worker 0..2 0..5
        work 0..2 0..4 0..4
        entry 0..2 0..9
        errorPosition
        """;
    private static final String LONG_LOOK = SHORT_LOOK + """
        entry 0..2 10..50
        mercyLeft 0..2
        changes 0..2
        lost 0..2 0..3
        whyNot 0..2 0..15
        failed 0..2 0..15 1..5
        simulate 1..9 99
        """;

    private record Call(String name, long[] arguments, String due, String line) {
        long argument(int k) {
            return k < arguments.length ? arguments[k] : 0;
        }
    }

    private final String name;
    private final String[] sections;
    private String section = "";
    private int held = 0;
    private int wrong = 0;

    Sentences(String name) throws IOException {
        this.name = name;
        this.sections = Files.readString(DOCUMENT).split("\n(?=## )");
    }

    /** What follows is held against the section of the document whose heading begins so. */
    void in(String heading) {
        section = "";
        for (String one : sections) {
            if (one.startsWith("## " + heading)) {
                section = plain(one);
            }
        }
        if (section.isEmpty()) {
            complain("the document has no section " + heading);
        }
    }

    /** The sentence stands in the document, and the calls answer as it says. */
    void holds(String sentence, String calls) {
        begin(sentence);
        ForgivenWork x = new ForgivenWork();
        int called = 0;
        for (Call call : read(calls)) {
            called = call.name().equals("new") ? 0 : called + 1;
            x = call.name().equals("new") ? new ForgivenWork() : x;
            if (called > MOST_CALLS) {
                complain("\"" + sentence + "\": an object is used for more than " + MOST_CALLS + " calls");
                return;
            }
            String got = call.name().equals("new") ? "" : answer(x, call);
            if (!isDue(call, got)) {
                complain("\"" + sentence + "\": call " + called + ", " + call.line() + ", answered " + got);
                return;
            }
        }
    }

    /** The sentence stands in the document; each of the calls behind the first ones is due, and changes nothing. */
    void keeps(String sentence, String first, String calls) {
        begin(sentence);
        List<Call> before = read(first);
        String seen = everything(before);
        for (Call call : read(calls)) {
            ForgivenWork x = after(before);
            String got = answer(x, call);
            if (!isDue(call, got)) {
                complain("\"" + sentence + "\": " + call.line() + " answered " + got);
            }
            List<Call> with = new ArrayList<>(before);
            with.add(call);
            if (!everything(with).equals(seen)) {
                complain("\"" + sentence + "\": " + call.line() + " changed something");
            }
        }
    }

    /** The sentence stands in the document, and a number is as it says. */
    void is(String sentence, String call, long got, long want) {
        begin(sentence);
        if (got != want) {
            complain("\"" + sentence + "\": " + call + " answered " + got + ", due is " + want);
        }
    }

    /** Tells how it went, and ends the program if something was wrong. */
    void end() {
        System.out.println(name + ": " + held + " times a sentence was held against calls, " + wrong + " wrong");
        if (wrong != 0) {
            System.exit(1);
        }
    }

    private void begin(String sentence) {
        held++;
        if (!section.contains(sentence)) {
            complain("\"" + sentence + "\" does not stand in " + section.split(" +", 4)[1] + " of the document");
        }
    }

    private void complain(String what) {
        wrong++;
        System.out.println(name + ": " + what);
    }

    private static String plain(String markdown) {
        return markdown.replace("```text", " ").replace("`", "").replaceAll("\\s+", " ");
    }

    // ---- calls

    private static List<Call> read(String calls) {
        List<Call> all = new ArrayList<>();
        for (String line : calls.split("\n")) {
            String call = line.replaceAll("//.*", "").strip();
            Matcher repeat = REPEAT.matcher(call);
            int times = repeat.matches() ? Integer.parseInt(repeat.group(1)) : 1;
            for (int k = 0; k < times && !call.isEmpty(); k++) {
                addCalls(all, repeat.matches() ? repeat.group(2) : call);
            }
        }
        return all;
    }

    private static void addCalls(List<Call> all, String line) {
        Matcher parts = DUE.matcher(line);
        if (!parts.matches()) {
            throw new IllegalArgumentException(line);
        }
        String due = parts.group(2) == null ? null : parts.group(3);
        String[] words = parts.group(1).split(" ");
        switch (words[0]) {
            case "type" -> addText(all, words[1]);
            case "text" -> {
                all.add(new Call("new", new long[0], null, line));
                addText(all, words[1]);
                all.add(new Call("errorPosition", new long[0], due, line));
            }
            case "story" -> {
                all.add(new Call("clearText", new long[0], null, line));
                addText(all, words[1]);
                all.add(new Call("load", new long[0], due, line));
            }
            default -> addEach(all, words[0], words, new long[words.length - 1], 0, due);
        }
    }

    private static void addText(List<Call> all, String text) {
        for (char c : text.toCharArray()) {
            all.add(new Call("append", new long[] {c}, null, "append " + c));
        }
    }

    private static void addEach(List<Call> all, String name, String[] words, long[] arguments, int k, String due) {
        if (k == arguments.length) {
            StringBuilder line = new StringBuilder(name);
            for (long argument : arguments) {
                line.append(' ').append(argument);
            }
            all.add(new Call(name, arguments.clone(), due, line + (due == null ? "" : " (due is " + due + ")")));
            return;
        }
        for (String item : words[k + 1].split(",")) {
            Matcher range = RANGE.matcher(item);
            boolean isLong = name.equals("simulate") && k == 0 || name.equals("runScript") && k == 1;
            long from = range.matches() ? Long.parseLong(range.group(1)) : number(item, isLong);
            long to = range.matches() ? Long.parseLong(range.group(2)) : from;
            for (long number = from, left = to - from; left >= 0; number++, left--) {
                arguments[k] = number;
                addEach(all, name, words, arguments, k + 1, due);
            }
        }
    }

    private static long number(String word, boolean isLong) {
        return switch (word) {
            case "min" -> isLong ? Long.MIN_VALUE : Integer.MIN_VALUE;
            case "max" -> isLong ? Long.MAX_VALUE : Integer.MAX_VALUE;
            default -> Long.parseLong(word);
        };
    }

    private static boolean isDue(Call call, String got) {
        if (call.due() == null) {
            return got.isEmpty() || !Character.isLetter(got.charAt(0));
        }
        return got.equals(call.due());
    }

    private static String answer(ForgivenWork x, Call call) {
        try {
            return String.valueOf(called(x, call));
        } catch (RuntimeException e) {
            String thrown = e.getClass().getName();
            return switch (thrown) {
                case "java.lang.IndexOutOfBoundsException" -> "Index";
                case "java.lang.IllegalArgumentException" -> "Argument";
                case "java.lang.IllegalStateException" -> "State";
                default -> thrown;
            };
        }
    }

    private static int called(ForgivenWork x, Call call) {
        int a = (int) call.argument(0);
        int b = (int) call.argument(1);
        int c = (int) call.argument(2);
        return switch (call.name()) {
            case "append" -> x.append(a);
            case "clearText" -> x.clearText();
            case "errorPosition" -> x.errorPosition();
            case "load" -> x.load();
            case "about" -> x.about(a);
            case "cell" -> x.cell(a, b);
            case "worker" -> x.worker(a, b);
            case "work" -> x.work(a, b, c);
            case "entry" -> x.entry(a, b);
            case "begin" -> x.begin(a);
            case "write" -> x.write(a, b, c);
            case "point" -> x.point(a);
            case "back" -> x.back(a, b);
            case "regret" -> x.regret(a, b, c);
            case "done" -> x.done(a);
            case "fail" -> x.fail(a);
            case "setMercy" -> x.setMercy(a);
            case "undo" -> x.undo();
            case "whyNot" -> x.whyNot(a, b);
            case "failed" -> x.failed(a, b, c);
            case "changes" -> x.changes(a);
            case "lost" -> x.lost(a, b);
            case "mercyLeft" -> x.mercyLeft(a);
            case "runScript" -> x.runScript(a, call.argument(1));
            case "simulate" -> x.simulate(call.argument(0), b);
            case "save" -> x.save(a);
            case "restore" -> x.restore(a);
            default -> throw new AssertionError("no such method: " + call.name());
        };
    }

    // ---- looking at an object without using it up: what is seen is asked of new objects with the same calls

    static ForgivenWork after(String calls) {
        return after(read(calls));
    }

    private static ForgivenWork after(List<Call> calls) {
        ForgivenWork x = new ForgivenWork();
        for (Call call : calls) {
            answer(x, call);
        }
        return x;
    }

    /** All that can be seen behind the calls: what is, what would be, the text, the slots and what is remembered. */
    private static String everything(List<Call> calls) {
        StringBuilder seen = new StringBuilder(seen(calls, LONG_LOOK));
        seen.append(answer(after(calls), read("clearText").get(0)));
        for (String slot : new String[] {"restore 0", "restore 1"}) {
            seen.append(seen(behind(calls, slot), SHORT_LOOK));
        }
        List<Call> undone = calls;
        String left = answer(after(undone), read("undo").get(0));
        for (int k = 0; k < MOST_UNDONE && Character.isDigit(left.charAt(0)); k++) {
            undone = behind(undone, "undo");
            seen.append(left).append(seen(undone, SHORT_LOOK));
            left = answer(after(undone), read("undo").get(0));
        }
        return seen.toString();
    }

    private static List<Call> behind(List<Call> calls, String last) {
        List<Call> all = new ArrayList<>(calls);
        all.addAll(read(last));
        return all;
    }

    private static String seen(List<Call> calls, String look) {
        StringBuilder seen = new StringBuilder();
        ForgivenWork x = after(calls);
        int called = calls.size();
        for (Call question : read(look)) {
            if (called == MOST_CALLS) {
                x = after(calls);
                called = calls.size();
            }
            seen.append(answer(x, question)).append(' ');
            called++;
        }
        return seen.toString();
    }
}
