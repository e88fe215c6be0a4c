import java.io.IOException;
import java.lang.reflect.InvocationTargetException;
import java.lang.reflect.Method;
import java.nio.charset.StandardCharsets;
import java.nio.file.Files;
import java.nio.file.Path;
import java.util.ArrayList;
import java.util.HashMap;
import java.util.List;
import java.util.Map;
import java.util.Set;
import java.util.TreeSet;
import java.util.function.BiConsumer;
import java.util.regex.Matcher;
import java.util.regex.Pattern;
import java.util.stream.Stream;

/**
 * Runs the scripts under src/test/edges: each sentence of the document that names a boundary case, with a
 * run of calls on a new object. README.md tells how a script is written. Beside each answer it looks, on
 * twins that are made anew, that a refused call or a question has changed nothing.
 */
public final class EdgeTest {
    private static final Path SCRIPTS = Path.of("src/test/edges");
    private static final Path DOCUMENT = Path.of("../shared/DOC.md");
    private static final int PROMISES = 45;
    private static final int MOST_CALLS = 512;
    /** Behind so many calls none are left to look at the object by; only what the last ones answer is asked. */
    private static final int LATE = 500;
    private static final long ANY = Long.MIN_VALUE + 1;
    private static final List<String> FINDINGS = List.of("BEYOND", "FULL", "KIND", "NONE", "STATE", "MISSING", "SIZE");
    private static final Set<String> QUESTIONS = Set.of("wayOf", "far", "by", "loops", "longer", "sum", "roundOf", "as", "live", "trip",
        "meet", "fit", "height", "paper", "worst", "lies", "known", "ask", "saves", "mend", "goes", "hollow", "read", "count", "status");
    private static final Pattern CALL = Pattern.compile("(?:(\\d+) \\* )?([a-zA-Z]+)\\(([^)]*)\\)(?: = (-?\\w+))?");
    private static final Pattern TOLD = Pattern.compile("(tape|told) \"([^\"]*)\"(?: to (\\d+))?(?: = (-?\\w+))?");

    private static final Map<String, Method> FACE = new HashMap<>();
    private static final Map<String, List<Call>> WORLDS = new HashMap<>();
    private static final List<BiConsumer<Twin, List<Long>>> PAGES = new ArrayList<>();
    private static final TreeSet<Integer> promises = new TreeSet<>();
    private static String document = null;
    private static String unquoted = "";
    /** Where the words stand that the present runs are for, and how many answers were asked ahead of them. */
    private static String quoted = null;
    private static int askedAhead = 0;
    private static int promise = 0;
    private static int cases = 0;
    private static int asked = 0;
    private static int looked = 0;
    private static int wrong = 0;

    /** One call of a script; want is null where any answer but a finding will do, ANY where each will. */
    private record Call(String where, String name, Object[] args, Long want) {
        @Override
        public String toString() {
            List<String> told = new ArrayList<>();
            for (Object arg : args) {
                told.add(arg.toString());
            }
            return name + "(" + String.join(", ", told) + ")";
        }
    }

    /** An object of the class, with how often it was called. */
    private static final class Twin {
        private final LongerBack x = new LongerBack();
        private int calls = 0;

        long ask(String name, Object... args) {
            calls++;
            if (calls > MOST_CALLS) {
                throw new IllegalStateException("more than " + MOST_CALLS + " calls of one object");
            }
            try {
                return ((Number) FACE.get(name).invoke(x, args)).longValue();
            } catch (InvocationTargetException e) {
                throw new IllegalStateException(name + " threw " + e.getCause(), e);
            } catch (IllegalAccessException e) {
                throw new IllegalStateException(e);
            }
        }

        void run(List<Call> calls) {
            for (Call call : calls) {
                ask(call.name, call.args);
            }
        }

        int places() {
            return (int) ask("count", 0);
        }
    }

    private static void fault(String what) {
        wrong++;
        System.out.println(what);
    }

    // ---- what can be seen of an object

    static {
        for (Method m : LongerBack.class.getMethods()) {
            if (m.getDeclaringClass() == LongerBack.class) {
                FACE.put(m.getName(), m);
            }
        }
        List<BiConsumer<Twin, List<Long>>> kept = new ArrayList<>();
        kept.add(EdgeTest::counts);
        kept.add(EdgeTest::ways);
        kept.add(EdgeTest::rounds);
        kept.add(EdgeTest::rowsOfWalks);
        for (int salt = 1; salt <= 4; salt++) {
            int number = salt;
            kept.add((x, seen) -> lessons(x, seen, number));
        }
        PAGES.addAll(kept);
        for (BiConsumer<Twin, List<Long>> page : kept) {
            PAGES.add((x, seen) -> {
                seen.add(x.ask("undo"));
                page.accept(x, seen);
            });
        }
        PAGES.add((x, seen) -> seen.add(x.ask("tear")));
        PAGES.add(EdgeTest::tape);
        PAGES.add(EdgeTest::sheets);
    }

    private static void counts(Twin x, List<Long> seen) {
        for (int what = 0; what <= 5; what++) {
            seen.add(x.ask("count", what));
        }
        for (int place = 0; place < 10; place++) {
            seen.add(x.ask("errands", place, 0));
        }
    }

    private static void ways(Twin x, List<Long> seen) {
        int places = x.places();
        for (int way = 0; way < places * places; way++) {
            for (int what = 0; what <= 2; what++) {
                seen.add(x.ask("wayOf", way / places, way % places, what));
            }
        }
    }

    private static void rounds(Twin x, List<Long> seen) {
        for (int round = 0; round < 8; round++) {
            for (int what = -2; what <= 5; what++) {
                seen.add(x.ask("roundOf", round, what));
            }
        }
    }

    private static void rowsOfWalks(Twin x, List<Long> seen) {
        int places = x.places();
        for (int walk = 0; walk < 8; walk++) {
            for (int place = 0; place < places; place++) {
                seen.add(x.ask("on", walk, place));
            }
        }
    }

    /** TOTAL, SLACK and PLACES of WALKS can be seen by what is learnt of them alone. */
    private static void lessons(Twin x, List<Long> seen, int salt) {
        int places = x.places();
        for (int way = 0; way < places * places; way++) {
            x.ask("way", way / places, way % places, -(way * salt % 7), way * salt * 5 % 37);
        }
        seen.add(x.ask("lies"));
        seen.add(x.ask("learn"));
        for (int way = 0; way < places * places; way++) {
            seen.add(x.ask("wayOf", way / places, way % places, 0));
            seen.add(x.ask("wayOf", way / places, way % places, 1));
        }
    }

    /** A byte of THE TAPE can be seen by what land() makes of all of them. */
    private static void tape(Twin x, List<Long> seen) {
        seen.add(x.ask("land"));
        counts(x, seen);
        ways(x, seen);
    }

    private static void sheets(Twin x, List<Long> seen) {
        for (int s = 0; s < 4; s++) {
            for (int i = 0; i < 40; i++) {
                seen.add(x.ask("write", s, i, 0x100010101L));
            }
            seen.add(x.ask("write", s, 0, 0L));
        }
    }

    private static List<Long> status(Twin x) {
        List<Long> all = new ArrayList<>();
        for (int which = -1; which < FINDINGS.size(); which++) {
            all.add(x.ask("status", which));
        }
        return all;
    }

    // ---- that nothing has changed

    /** Both are made by the same calls; then one of them has been asked, the other one not. */
    private static void sameAsUnasked(List<Call> before, Call call, Call instead, int finding) {
        looked++;
        List<Call> asked = new ArrayList<>(before);
        asked.add(call);
        List<Call> unasked = new ArrayList<>(before);
        if (instead != null) {
            unasked.add(instead);
        }
        Twin one = new Twin();
        one.run(unasked);
        List<Long> due = status(one);
        if (finding >= 0) {
            due.set(0, due.get(0) + 1);
            due.set(finding + 1, due.get(finding + 1) + 1);
        }
        Twin other = new Twin();
        other.run(asked);
        List<Long> is = status(other);
        if (!is.equals(due)) {
            fault(call.where + ": behind " + call + " status is " + is + ", due is " + due);
        }
        for (int page = 0; page < PAGES.size(); page++) {
            List<Long> left = look(asked, page);
            if (!left.equals(look(unasked, page))) {
                fault(call.where + ": " + call + " changed something (page " + page + ")");
            }
        }
    }

    private static List<Long> look(List<Call> calls, int page) {
        Twin x = new Twin();
        x.run(calls);
        List<Long> seen = new ArrayList<>();
        PAGES.get(page).accept(x, seen);
        return seen;
    }

    private static int findingOf(long answer) {
        return answer <= -1000000001L && answer >= -1000000007L ? (int) (-1000000001L - answer) : -1;
    }

    private static void runCase(List<Call> calls) {
        cases++;
        Twin x = new Twin();
        for (int i = 0; i < calls.size(); i++) {
            Call call = calls.get(i);
            long got = x.ask(call.name, call.args);
            if (call.want == null) {
                if (findingOf(got) >= 0) {
                    fault(call.where + ": " + call + " answered " + got + ", due is no finding");
                }
            } else if (call.want != ANY) {
                asked++;
                if (got != call.want) {
                    fault(call.where + ": " + call + " answered " + got + ", due is " + call.want);
                }
                if (i < LATE) {
                    lookBehind(calls.subList(0, i), call);
                }
            }
        }
    }

    private static void lookBehind(List<Call> before, Call call) {
        int finding = isWritten(before, call) ? -1 : findingOf(call.want);
        if (finding >= 0 || QUESTIONS.contains(call.name)) {
            sameAsUnasked(before, call, null, finding);
        } else if (call.name.equals("land") && call.want < 0) {
            sameAsUnasked(before, call, new Call(call.where, "wipe", new Object[0], null), -1);
        }
    }

    /** A number of 64 bits may look like a finding, and is none. */
    private static boolean isWritten(List<Call> before, Call call) {
        for (Call earlier : before) {
            if (call.name.equals("write") && earlier.name.equals("write") && earlier.args[2].equals(call.want)) {
                return true;
            }
        }
        return false;
    }

    // ---- scripts

    private static long numberOf(String word) {
        if (FINDINGS.contains(word)) {
            return -1000000001L - FINDINGS.indexOf(word);
        }
        return switch (word) {
            case "MIN" -> Integer.MIN_VALUE;
            case "MAX" -> Integer.MAX_VALUE;
            case "LEAST" -> Long.MIN_VALUE;
            case "MOST" -> Long.MAX_VALUE;
            case "ANY" -> ANY;
            default -> word.startsWith("0x") ? Long.parseUnsignedLong(word.substring(2), 16) : Long.parseLong(word);
        };
    }

    private static Call callOf(String where, String name, String row, String want) {
        Method m = FACE.get(name);
        if (m == null) {
            throw new IllegalStateException(where + ": no call " + name);
        }
        String[] words = row.isBlank() ? new String[0] : row.split(",\\s*");
        Class<?>[] types = m.getParameterTypes();
        if (types.length != words.length) {
            throw new IllegalStateException(where + ": " + name + " takes " + types.length);
        }
        Object[] args = new Object[words.length];
        for (int i = 0; i < words.length; i++) {
            if (types[i] == boolean.class) {
                args[i] = words[i].equals("true");
            } else if (types[i] == long.class) {
                args[i] = numberOf(words[i]);
            } else {
                args[i] = (int) numberOf(words[i]);
            }
        }
        return new Call(where, name, args, want == null ? null : numberOf(want));
    }

    private static void addCalls(List<Call> calls, String where, String line) {
        Matcher m = CALL.matcher(line);
        int end = 0;
        while (m.find()) {
            if (!line.substring(end, m.start()).isBlank()) {
                break;
            }
            end = m.end();
            for (int times = m.group(1) == null ? 1 : Integer.parseInt(m.group(1)); times > 0; times--) {
                calls.add(callOf(where, m.group(2), m.group(3), m.group(4)));
            }
        }
        if (!line.substring(end).isBlank()) {
            throw new IllegalStateException(where + ": what is " + line.substring(end));
        }
    }

    private static List<Integer> bytesOf(String text, String filled) {
        List<Integer> bytes = new ArrayList<>();
        for (int i = 0; i < text.length(); i++) {
            if (text.charAt(i) == '\\') {
                bytes.add(Integer.parseInt(text.substring(i + 1, i + 3), 16));
                i += 2;
            } else {
                bytes.add((int) text.charAt(i));
            }
        }
        while (filled != null && bytes.size() < Integer.parseInt(filled)) {
            bytes.add((int) ' ');
        }
        return bytes;
    }

    private static void addText(List<Call> calls, String where, Matcher m) {
        List<Integer> bytes = bytesOf(m.group(2), m.group(3));
        for (int i = 0; i < bytes.size(); i += 4) {
            int n = Math.min(4, bytes.size() - i);
            int number = 0;
            for (int k = 0; k < n; k++) {
                number = number << 8 | bytes.get(i + k);
            }
            calls.add(new Call(where, "feed", new Object[] {number, n}, null));
        }
        if (m.group(1).equals("told")) {
            calls.add(new Call(where, "land", new Object[0], numberOf(m.group(4))));
        }
    }

    private static void addLine(List<Call> calls, String where, String line) {
        Matcher told = TOLD.matcher(line);
        if (told.matches()) {
            addText(calls, where, told);
        } else if (line.startsWith("use ")) {
            List<Call> world = WORLDS.get(line.substring(4));
            if (world == null) {
                throw new IllegalStateException(where + ": no world " + line);
            }
            calls.addAll(world);
        } else {
            addCalls(calls, where, line);
        }
    }

    private static void quote(String where, String words) {
        if (document == null) {
            return;
        }
        if (!document.contains(words)) {
            fault(where + ": the document does not say '" + words + "'");
        }
        unquoted = unquoted.replace(words, "..");
    }

    private static void endCase(List<Call> calls) {
        if (!calls.isEmpty()) {
            runCase(calls);
        }
    }

    /** Words that are quoted, and a promise that is named, must have an answer asked behind them. */
    private static void endWords() {
        if (quoted != null && asked == askedAhead) {
            fault(quoted + " has no answer of its own");
        }
        quoted = null;
    }

    private static void beginWords(String where, String words) {
        endWords();
        quote(where, words);
        quoted = where;
        askedAhead = asked;
    }

    /** A script's blocks: a heading (==), words of the document (>), a world, or calls. */
    private static void runScript(Path file) throws IOException {
        List<Call> calls = new ArrayList<>();
        int number = 0;
        for (String raw : Files.readAllLines(file, StandardCharsets.ISO_8859_1)) {
            number++;
            String where = file.getFileName() + ":" + number;
            String line = raw.contains("\"") ? raw.strip() : raw.replaceFirst("#.*", "").strip();
            boolean isHeading = line.startsWith("==");
            boolean isWorld = line.startsWith("world ");
            if (isHeading || isWorld || line.startsWith(">") || line.equals("--")) {
                endCase(calls);
                calls = new ArrayList<>();
            }
            if (line.startsWith("== Promise ")) {
                endWords();
                quote(where, line.substring(3));
                promise = Integer.parseInt(line.substring(11, line.indexOf(':')));
            } else if (line.startsWith(">")) {
                beginWords(where, line.substring(1).strip());
                promises.add(promise);
            } else if (isHeading) {
                endWords();
                promise = 0;
            } else if (isWorld) {
                WORLDS.put(line.substring(6), calls);
            } else if (!line.isEmpty() && !line.equals("--")) {
                addLine(calls, where, line);
            }
        }
        endCase(calls);
        endWords();
    }

    private static void readDocument() throws IOException {
        if (!Files.isReadable(DOCUMENT)) {
            System.out.println("no document at " + DOCUMENT + ": what the scripts quote is not looked up");
            return;
        }
        document = Files.readString(DOCUMENT);
        unquoted = document;
    }

    public static void main(String[] args) throws IOException {
        readDocument();
        List<Path> scripts;
        try (Stream<Path> files = Files.list(SCRIPTS)) {
            scripts = files.filter(file -> file.toString().endsWith(".txt")).sorted().toList();
        }
        for (Path script : scripts) {
            runScript(script);
        }
        for (int promise = 1; promise <= PROMISES; promise++) {
            if (!promises.contains(promise)) {
                fault("promise " + promise + " has no sentence");
            }
        }
        if (args.length > 0) {
            System.out.println(unquoted);
        }
        System.out.println(cases + " cases, " + asked + " answers, " + looked + " times that nothing changed: " + wrong + " not as due");
        if (wrong != 0) {
            System.exit(1);
        }
    }
}
