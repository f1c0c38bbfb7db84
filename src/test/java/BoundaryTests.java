import java.io.IOException;
import java.lang.reflect.InvocationTargetException;
import java.lang.reflect.Method;
import java.nio.charset.StandardCharsets;
import java.nio.file.Files;
import java.nio.file.Path;
import java.util.ArrayList;
import java.util.HashMap;
import java.util.LinkedHashMap;
import java.util.List;
import java.util.Map;
import java.util.TreeSet;
import java.util.regex.Matcher;
import java.util.regex.Pattern;

/**
 * A test for each sentence of the document that names a boundary. The sentence stands ahead of its calls, in the
 * document's own words, and is looked for in its section there. Every call that is refused is also tried for
 * changing nothing but what found() tells: two objects with the same calls, one of them with the refused call
 * too, must answer all other calls alike.
 */
public final class BoundaryTests {
    private static final int BEYOND = -1000001;
    private static final int NONE = -1000002;
    private static final int STATE = -1000003;
    private static final int FULL = -1000004;
    private static final int KIND = -1000005;
    private static final int MIN = Integer.MIN_VALUE;
    private static final int MAX = Integer.MAX_VALUE;
    private static final int MOST_CALLS = 512;

    private static final Map<String, String> DOCUMENT = new LinkedHashMap<>();
    private static final Map<String, Method> METHODS = new HashMap<>();
    private static final Map<String, Call> CALLS = new HashMap<>();
    private static final TreeSet<String> TESTED = new TreeSet<>();
    private static final List<List<Call>> LOOKS = new ArrayList<>();
    private static String section = "";
    private static String sentence = "";
    private static int wrong;
    private static int refusals;

    private static void fail(String what) {
        wrong++;
        System.out.println(section + " (" + sentence + "): " + what);
    }

    private static void section(String name) {
        section = name;
        sentence = "";
        TESTED.add(name);
        if (!DOCUMENT.containsKey(name)) {
            fail("the document has no such section");
        }
    }

    private static void sentence(String words) {
        sentence = words;
        if (!DOCUMENT.getOrDefault(section, "").contains(words)) {
            fail("the section has no such words");
        }
    }

    /** Sections: "Findings", "Term 1" to "Term 11", "Promise 1" to "Promise 56"; all in one line. */
    private static void readDocument() throws IOException {
        String name = "";
        for (String line : Files.readAllLines(Path.of("../shared/DOC.md"), StandardCharsets.UTF_8)) {
            Matcher promise = Pattern.compile("^## (Promise \\d+):.*").matcher(line);
            Matcher term = Pattern.compile("^(\\d+)\\. .*").matcher(line);
            if (promise.matches()) {
                name = promise.group(1);
            } else if (line.startsWith("## ")) {
                name = line.equals("## Terms") ? "Findings" : "";
            } else if (term.matches()) {
                name = "Term " + term.group(1);
            } else if (line.startsWith("Ahead of the calls")) {
                name = "";
            }
            String words = line.startsWith("```") ? "" : line.replace("&lt;", "<").replace("&gt;", ">").trim();
            if (!name.isEmpty() && !words.isEmpty()) {
                DOCUMENT.merge(name, words, (was, more) -> was + " " + more);
            }
        }
    }

    /** A call as it is written: its name, and its arguments in brackets. */
    private static final class Call {
        private final String text;
        private final Method method;
        private final Object[] arguments;

        Call(String text) {
            this.text = text;
            int bracket = text.indexOf('(');
            method = METHODS.get(text.substring(0, bracket));
            String inside = text.substring(bracket + 1, text.length() - 1).trim();
            String[] words = inside.isEmpty() ? new String[0] : inside.split(", *");
            Class<?>[] types = method.getParameterTypes();
            if (words.length != types.length) {
                throw new IllegalStateException(text);
            }
            arguments = new Object[words.length];
            for (int i = 0; i < words.length; i++) {
                arguments[i] = argument(types[i], words[i]);
            }
        }

        private static Object argument(Class<?> type, String word) {
            if (type == boolean.class) {
                return Boolean.valueOf(word);
            }
            return type == long.class ? (Object) Long.valueOf(word) : Integer.valueOf(word);
        }

        int on(SealCouncil x) {
            try {
                return (Integer) method.invoke(x, arguments);
            } catch (InvocationTargetException | IllegalAccessException e) {
                throw new IllegalStateException(section + ": " + text, e);
            }
        }
    }

    private static Call call(String text) {
        return CALLS.computeIfAbsent(text, Call::new);
    }

    /** An object, and the calls that made it what it is, so that one like it can be made again. */
    private static final class Scene {
        private final List<Call> calls = new ArrayList<>();
        private final SealCouncil live = new SealCouncil();
        private int used;
        private List<Integer> looks;

        private int ask(Call call) {
            used++;
            if (used > MOST_CALLS) {
                throw new IllegalStateException("too many calls");
            }
            return call.on(live);
        }

        private SealCouncil again() {
            SealCouncil x = new SealCouncil();
            for (Call call : calls) {
                call.on(x);
            }
            return x;
        }

        /** Calls whose answers are no matter here; none may be refused. */
        Scene does(String... texts) {
            for (String text : texts) {
                int got = ask(call(text));
                if (got <= BEYOND && got >= KIND) {
                    fail(text + " was refused with " + got);
                }
                calls.add(call(text));
            }
            looks = null;
            return this;
        }

        Scene times(int n, String text) {
            for (int i = 0; i < n; i++) {
                does(text);
            }
            return this;
        }

        /** A TEXT comes to THE TAPE, in words of up to 8 bytes. */
        Scene feeds(String text) {
            for (int from = 0; from < text.length(); from += 8) {
                int n = Math.min(8, text.length() - from);
                long word = 0;
                for (int i = n - 1; i >= 0; i--) {
                    word = word << 8 | text.charAt(from + i) & 255;
                }
                does("feed(" + word + ", " + n + ")");
            }
            return this;
        }

        Scene law(int use, int from, String text) {
            return feeds(text).does("law(" + use + ", " + from + ")");
        }

        Scene answers(String text, int want) {
            int got = ask(call(text));
            if (got != want) {
                fail(text + " answered " + got + ", due is " + want);
            }
            calls.add(call(text));
            looks = null;
            return this;
        }

        /** What it would answer; the scene stays as it is. */
        Scene would(String text, int want) {
            int got = call(text).on(again());
            if (got != want) {
                fail(text + " would answer " + got + ", due is " + want);
            }
            return this;
        }

        /** It answers a finding, and nothing is changed but how often that was found. */
        Scene refuses(String text, int finding) {
            refusals++;
            int got = ask(call(text));
            if (got != finding) {
                fail(text + " answered " + got + ", the finding " + finding + " is due");
                return this;
            }
            if (looks == null) {
                looks = looksBehind(null, null);
            }
            if (!looks.equals(looksBehind(call(text), call("found(" + (-1000000 - finding) + ")")))) {
                fail(text + " is refused, but changed something");
            }
            return this;
        }

        /** BEYOND with each of these numbers in the place of #, and with the least and the greatest int. */
        Scene beyond(String pattern, int... numbers) {
            for (int number : numbers) {
                refuses(pattern.replace("#", String.valueOf(number)), BEYOND);
            }
            refuses(pattern.replace("#", String.valueOf(MIN)), BEYOND);
            return refuses(pattern.replace("#", String.valueOf(MAX)), BEYOND);
        }

        /** All that can be seen of objects like this one, perhaps behind a refused call, which `found` counts. */
        private List<Integer> looksBehind(Call refused, Call found) {
            List<Integer> seen = new ArrayList<>();
            for (List<Call> look : LOOKS) {
                SealCouncil x = again();
                if (refused != null) {
                    refused.on(x);
                }
                if (calls.size() + 1 + look.size() > MOST_CALLS) {
                    throw new IllegalStateException("too many calls");
                }
                for (Call call : look) {
                    seen.add(call.on(x) - (call == found ? 1 : 0));
                }
            }
            return seen;
        }
    }

    private static List<Call> look(String... patterns) {
        List<Call> calls = new ArrayList<>();
        for (String pattern : patterns) {
            spread(calls, pattern);
        }
        LOOKS.add(calls);
        return calls;
    }

    /** Writes a pattern out: {a..b} stands for each number from a to b. */
    private static void spread(List<Call> calls, String pattern) {
        Matcher range = Pattern.compile("\\{(-?\\d+)\\.\\.(\\d+)\\}").matcher(pattern);
        if (!range.find()) {
            calls.add(call(pattern));
            return;
        }
        for (int i = Integer.parseInt(range.group(1)); i <= Integer.parseInt(range.group(2)); i++) {
            spread(calls, pattern.substring(0, range.start()) + i + pattern.substring(range.end()));
        }
    }

    private static void prepareLooks() {
        look("found({1..5})", "count({0..15})", "trace({0..13})", "far({0..9}, {0..9})", "image()", "restore()");
        look("force({0..4}, 0, {-1..4})", "force({0..4}, 2000, {-1..12})", "force({0..4}, {1..12}, 2000)",
                "says({0..11}, {-1..2}, {-1..1})");
        look("about({0..19}, {0..9})", "held({0..19}, {0..4})");
        look("letter({0..19}, {0..9})");
        look("letter({20..39}, {0..9})");
        look("owed({0..5}, {0..3})", "cause({0..5}, {0..3})", "buying({0..5}, {0..1})", "heir({0..19})", "age()",
                "after({0..19})", "night({1..20}, {1..3}, {0..2}, 0)", "plan({0..3}, {-1..1})");
        look("breaks({0..29})", "strike({0..11})", "guard({0..4}, 0)", "rent({0..9}, 0)", "own({0..9}, -1)",
                "price({0..19}, 1)", "put({0..3}, {0..24}, 0)", "give({0..19}, -1)", "seat({0..19}, false)");
        look("press({0..39}, 0)", "send({0..39}, 0)", "open({0..39})", "obey({0..39})", "letter({0..39}, 3)");
        look("count(10)", "law(0, 0)", "says({0..11}, -1, -1)", "check()", "count(13)", "tell(5)", "check()");
        look("days(1)", "go({0..19}, 0)", "count({8..15})", "held({0..19}, 2)", "days(90)", "count({8..15})",
                "owed({0..5}, {0..2})", "days(90)", "about({0..19}, {0..2})", "owed({0..5}, {0..2})");
        look("restore()", "count({0..15})", "about({0..19}, {0..9})", "held({0..5}, {0..4})", "image()");
        for (int sheet = 0; sheet < 4; sheet++) {
            List<Call> calls = look("count(0)", "town()");
            int other = (sheet + 1) % 4;
            for (int bits = 8; bits <= 32; bits *= 2) {
                for (int i = 0; i < 24; i++) {
                    spread(calls, "sheet(" + other + ", " + bits + ", 1)");
                    spread(calls, "move(" + sheet + ", " + i + ", " + other + ", 0, 1)");
                    spread(calls, "rents(" + other + ", " + bits + ")");
                    spread(calls, "rent(0, 0)");
                }
            }
        }
    }

    /** n TOWNS in a row, so many days between each and the next. */
    private static Scene row(int n, int days) {
        Scene x = new Scene().times(n, "town()");
        for (int i = 1; i < n; i++) {
            x.does("road(" + (i - 1) + ", " + i + ", " + days + ")");
        }
        return x;
    }

    /** n grown PERSONS of SEX 1 at the COURT, which is the only TOWN. */
    private static Scene court(int n) {
        return row(1, 1).times(n, "person(1, -9000, 0, 0)");
    }

    private static String repeated(String text, int n) {
        return String.join("", java.util.Collections.nCopies(n, text));
    }

    private static void findings() {
        section("Findings");
        sentence("LOW is -1000000; LOW - 1 BEYOND, LOW - 2 NONE, LOW - 3 STATE, LOW - 4 FULL, LOW - 5 KIND");
        new Scene().times(20, "tell(7)").does("sheet(1, 8, 1)")
                .refuses("count(16)", -1000001)
                .refuses("restore()", -1000002)
                .refuses("sheet(0, 8, -1)", -1000003)
                .refuses("tell(7)", -1000004)
                .refuses("rents(1, 16)", -1000005);
        sentence("one that answers a finding changes nothing but what found() tells");
        new Scene().times(20, "tell(7)")
                .answers("tell(8)", FULL).answers("tell(9)", FULL).answers("count(13)", 20)
                .answers("found(4)", 2).answers("found(1)", 0).answers("found(2)", 0).answers("found(3)", 0)
                .answers("found(5)", 0);
        sentence("Quotients are cut.");
        row(1, 1).does("person(1, -719, 0, 0)", "debt(199, 10001, 0)", "debt(99, 10001, 0)")
                .answers("about(0, 3)", 1).does("days(90)")
                .answers("owed(0, 0)", 199).answers("owed(1, 0)", 98);
    }

    private static void termOfTowns() {
        section("Term 1");
        sentence("DAYS are 0 .. 2000; the DAY is 0 at first.");
        new Scene().answers("count(8)", 0).times(5, "days(400)").answers("count(8)", 2000).refuses("days(1)", BEYOND);
        sentence("TOWNS 0, 1, .. (at most 10); TOWN 0 is the COURT.");
        Scene ten = new Scene();
        for (int i = 0; i < 10; i++) {
            ten.answers("town()", i);
        }
        ten.refuses("town()", FULL).answers("count(0)", 10);
        row(2, 2).does("person(1, 0, 0, 0)", "person(1, 0, 0, 1)", "days(9)")
                .answers("about(0, 4)", 9).answers("about(1, 4)", 7);
        sentence("ROADS, at most 20, join two TOWNS in 1 .. 9 days.");
        row(3, 5).answers("road(0, 2, 9)", 3).answers("far(0, 2)", 9).answers("road(2, 0, 1)", 4)
                .answers("far(0, 2)", 1).times(16, "road(0, 1, 9)").refuses("road(0, 1, 1)", FULL)
                .answers("count(1)", 20).answers("far(0, 1)", 5);
        sentence("FAR of two TOWNS: the fewest days over ROADS (as they are when it is asked).");
        row(10, 9).answers("far(0, 9)", 81).answers("far(9, 0)", 81).answers("far(9, 9)", 0).answers("far(3, 5)", 18)
                .does("road(0, 9, 9)").answers("far(0, 9)", 9).answers("far(0, 5)", 45).answers("far(0, 6)", 36)
                .answers("far(1, 8)", 27).does("road(9, 0, 1)", "road(0, 9, 2)").answers("far(9, 0)", 1);
    }

    private static void termOfPersons() {
        section("Term 1");
        sentence("PERSONS 0, 1, .. (at most 20) have a SEX (0, 1), a day on which they were BORN (-20000 .. DAY)");
        Scene x = row(1, 1).does("days(7)");
        x.answers("person(0, -20000, 0, 0)", 0).answers("person(1, 7, 0, 0)", 1);
        for (int i = 2; i < 20; i++) {
            x.answers("person(1, 0, 0, 0)", i);
        }
        x.refuses("person(1, 0, 0, 0)", FULL).answers("count(2)", 20);
        sentence("a FATHER of SEX 1 and a MOTHER of SEX 0, both BORN ahead of it, or none");
        row(1, 1).does("person(1, -10, 0, 0)", "person(0, -20, 0, 0)")
                .refuses("person(1, 0, 200, 0)", BEYOND).refuses("person(1, 0, 1, 0)", BEYOND)
                .refuses("person(1, -10, 100, 0)", BEYOND).refuses("person(1, -11, 100, 0)", BEYOND)
                .refuses("person(1, -20, 2, 0)", BEYOND).refuses("person(1, -15, 102, 0)", BEYOND)
                .would("person(1, -9, 100, 0)", 2).would("person(1, -19, 2, 0)", 2)
                .would("person(1, -9, 102, 0)", 2).would("person(1, -20000, 0, 0)", 2);
        sentence("PERSON 0 is THE CHILD.");
        row(1, 1).does("person(0, -9, 0, 0)", "person(0, -8, 0, 0)", "person(0, -7, 2, 0)").answers("about(0, 8)", 0)
                .answers("about(1, 8)", 99).answers("about(2, 8)", 99).answers("age()", 0).law(3, 0, "1-s-b")
                .answers("age()", 0).refuses("heir(0)", NONE);
        sentence("GOING takes FAR days; it is there on the day on which it comes");
        row(2, 9).does("person(1, 0, 0, 0)").answers("go(0, 0)", 0).answers("about(0, 0)", 0)
                .answers("go(0, 1)", 9).answers("about(0, 0)", -1).does("days(8)").answers("about(0, 0)", -1)
                .does("road(0, 1, 1)").answers("about(0, 0)", -1).does("days(1)").answers("about(0, 0)", 1)
                .answers("go(0, 1)", 9).answers("about(0, 0)", 1).answers("go(0, 0)", 10);
        row(2, 3).does("person(1, 0, 0, 0)", "pay(0, 2)", "men(0, 4)").answers("go(0, 1)", 3).answers("about(0, 1)", 2)
                .does("days(1)", "pay(0, 6)", "days(1)").answers("about(0, 0)", -1).does("days(1)")
                .answers("about(0, 0)", 1).answers("about(0, 1)", 8).answers("about(0, 2)", 4);
        sentence("it has COIN and MEN (0 at first)");
        court(1).answers("about(0, 1)", 0).answers("about(0, 2)", 0).answers("count(14)", 0);
        sentence("AGE on a day: days since it was BORN, by 360.");
        row(1, 1).does("person(1, 0, 0, 0)", "person(1, -20000, 0, 0)", "person(1, -359, 0, 0)", "days(359)")
                .answers("about(0, 3)", 0).answers("about(2, 3)", 1).does("days(1)")
                .answers("about(0, 3)", 1).answers("about(1, 3)", 56).does("days(1)").answers("about(2, 3)", 2)
                .times(4, "days(400)").does("days(39)").answers("about(1, 3)", 61).answers("about(0, 3)", 5);
        sentence("THE CHEST has COIN (1000 at first).");
        court(1).answers("count(9)", 1000).refuses("pay(0, 1001)", NONE).answers("pay(0, 1000)", 0);
    }

    private static void termOfKnowing() {
        section("Term 1");
        sentence("in a TOWN the DAY less FAR from the COURT to there, but never less than it was (-1 at first; "
                + "without a way as it was)");
        row(3, 3).does("town()", "person(1, 0, 0, 0)", "person(1, 0, 0, 1)", "person(1, 0, 0, 3)")
                .answers("about(0, 4)", 0).answers("about(1, 4)", -1).answers("about(2, 4)", -1).does("days(2)")
                .answers("about(0, 4)", 2).answers("about(1, 4)", -1).does("days(1)").answers("about(1, 4)", 0)
                .does("days(8)").answers("about(1, 4)", 8).answers("about(2, 4)", -1)
                .does("road(0, 3, 9)").answers("about(2, 4)", 2).does("road(3, 0, 1)").answers("about(2, 4)", 10);
        row(2, 9).does("days(5)", "person(1, 5, 0, 1)").answers("about(0, 4)", -1).does("days(4)")
                .answers("about(0, 4)", 0);
        row(1, 1).does("town()", "person(1, 0, 0, 1)").times(5, "days(400)").answers("about(0, 4)", -1)
                .does("road(0, 1, 9)").answers("about(0, 4)", 1991);
        sentence("on the road, and of one that is dead, as it was when it left, or died");
        row(3, 3).does("person(1, 0, 0, 1)", "person(1, 0, 0, 0)", "days(5)")
                .answers("go(0, 2)", 8).answers("about(0, 4)", 2).does("days(2)").answers("about(0, 4)", 2)
                .does("days(1)").answers("about(0, 4)", 2).does("days(1)").answers("about(0, 4)", 3)
                .does("die(0)", "days(5)").answers("about(0, 4)", 3).does("road(0, 2, 1)").answers("about(0, 4)", 3)
                .answers("about(1, 4)", 14).does("die(1)", "days(1)").answers("about(1, 4)", 14);
        row(2, 5).does("person(1, 0, 0, 0)", "days(4)", "go(0, 1)", "days(2)", "die(0)", "days(9)")
                .answers("about(0, 4)", 4);
        sentence("(What it was counts as of each DAY on which it was there, and as of each act.)");
        row(3, 9).does("person(1, 0, 0, 2)", "days(19)").answers("about(0, 4)", 1)
                .does("road(0, 2, 2)", "go(0, 1)").answers("about(0, 4)", 17)
                .does("days(9)").answers("about(0, 4)", 19).does("days(1)").answers("about(0, 4)", 20);
    }

    private static void termOfPowers() {
        section("Term 2");
        sentence("POWERS 0, 1, .. (at most 20) are of KINDS: 0 POWER, 1 OFFICE under POWER, 2 SEAL under POWER, 3 "
                + "GUARD under OFFICE, 4 MARCH under GUARD, 5 CLAIM under POWER.");
        Scene x = court(1);
        for (int i = 0; i < 20; i++) {
            x.answers("power(" + i % 6 + ", 0, 1)", i);
        }
        x.refuses("power(0, 0, 1)", FULL).refuses("copy(2)", FULL).answers("count(3)", 20);
        sentence("Each has a WORTH (0 .. 99), and a HOLDER or none.");
        court(1).answers("power(0, 0, 0)", 0).answers("power(5, -1, 99)", 1).answers("as(0, 0)", 0)
                .answers("as(1, 0)", 99).answers("held(0, 1)", 0).answers("held(1, 1)", -1)
                .refuses("power(0, 0, -1)", BEYOND).refuses("power(0, 0, 100)", BEYOND);
        sentence("A SEAL may be LENT by its HOLDER to another PERSON till a day (with it).");
        court(3).does("power(2, 0, 1)", "power(2, 0, 1)", "lend(0, 1, 0)", "lend(1, 2, 2)")
                .answers("held(0, 2)", 1).answers("held(0, 4)", 0).does("days(1)")
                .answers("held(0, 2)", 0).answers("held(0, 4)", -1).answers("held(1, 2)", 2).does("days(1)")
                .answers("held(1, 2)", 2).answers("held(1, 4)", 2).does("days(1)")
                .answers("held(1, 2)", 0).answers("held(1, 4)", -1);
        sentence("WHO HAS it: to whom it is LENT, else its HOLDER.");
        court(2).does("power(2, -1, 1)").answers("held(0, 2)", -1).does("give(0, 0)").answers("held(0, 2)", 0)
                .does("lend(0, 1, 2000)").answers("held(0, 2)", 1).answers("held(0, 1)", 0);
        sentence("A COPY of a SEAL is a SEAL of the same MARK (a first one's MARK is its number), held by who has the "
                + "SEAL.");
        court(2).times(18, "power(0, 0, 5)").does("power(2, 0, 5)", "lend(18, 1, 9)").answers("held(18, 3)", 18)
                .answers("copy(18)", 19).answers("held(19, 3)", 18).answers("held(19, 1)", 1)
                .answers("held(19, 0)", 2).does("draw(0, 0, 0)", "press(0, 19)").answers("letter(0, 3)", 1 << 18);
    }

    /** What law(0, 0) answers with a TEXT alone on THE TAPE. */
    private static void reads(String text, int want) {
        Scene x = new Scene().feeds(text);
        x.answers("law(0, 0)", want);
        x.answers("count(10)", 0).answers("count(4)", want < 0 ? 0 : 1);
    }

    /** Behind `ahead` each of 256 bytes: where it ends too early, where it is a TEXT; else that byte is the FAULT. */
    private static void readsBehind(String ahead, String goesOn, String isText) {
        for (int sign = 0; sign < 256; sign++) {
            int early = goesOn.indexOf(sign) >= 0 ? -10 - ahead.length() - 1 : -10 - ahead.length();
            reads(ahead + (char) sign, isText.indexOf(sign) >= 0 ? 0 : early);
        }
    }

    private static void termOfReading() {
        section("Term 3");
        String digits = "0123456789";
        String parts = digits + "askcmtbyowd";
        sentence("FAULT: the place of the first byte with which no TEXT goes on; how many there are, if it ends too "
                + "early.");
        reads("", -10);
        readsBehind("", "!(", parts);
        readsBehind("a", "|&<=>+-", "");
        readsBehind("1", "|&<=>+-", digits);
        readsBehind("a+", "!(", parts);
        readsBehind("a-", "!(", parts);
        readsBehind("a|", "!(", parts);
        readsBehind("a&", "!(", parts);
        readsBehind("a<", "!(", parts);
        readsBehind("a=", "!(", parts);
        readsBehind("a>", "!(", parts);
        readsBehind("!", "!(", parts);
        readsBehind("!a", "|&<=>+-", "");
        readsBehind("(", "!(" + parts, "");
        readsBehind("(a", "|&<=>+-", ")");
        readsBehind("(a)", "|&<=>+-", "");
        sentence("B: S, or S < S, S = S, S > S.");
        readsBehind("a<b", "|&+-", "");
        readsBehind("a=b+c", "|&+-", "");
        readsBehind("a>1", "|&+-", digits);
        readsBehind("a<b&c", "|&<=>+-", "");
        readsBehind("a<b|c", "|&<=>+-", "");
        readsBehind("(a<b)", "|&<=>+-", "");
        readsBehind("(a<b", "|&+-", ")");
        sentence("a NUMBER of 1 to 4 digits");
        readsBehind("12", "|&<=>+-", digits);
        readsBehind("000", "|&<=>+-", digits);
        readsBehind("9999", "|&<=>+-", "");
        readsBehind("a+0000", "|&<=>+-", "");
        sentence("No blanks.");
        reads(" a", -10);
        reads("a ", -11);
        reads("a+ b", -12);
        sentence("At most 5 of ! and ( are open at once.");
        for (String five : new String[] {"!!!!!", "!(!(!", "!!!((", "!((!!"}) {
            boolean closed = five.indexOf('(') < 0;
            readsBehind(five, closed ? "" : parts, closed ? parts : "");
        }
        readsBehind("(((((", parts, "");
        readsBehind("((((", "!(" + parts, "");
        readsBehind("!!!!", "!(", parts);
        readsBehind("((((!a+", "!(" + parts, "");
        readsBehind("((((!a+!", parts, "");
        readsBehind("(((((a)+", "!(" + parts, "");
        readsBehind("!!!!!a+!!!!!", "", parts);
        reads("(((((a)))))+(((((a)))))|!!!!!a", 0);
        sentence("TEXTS are read from THE TAPE (bytes, at most 60)");
        reads("10" + repeated("+1", 29), 0);
        reads(repeated("1+", 30), -70);
        reads(repeated("1+", 29) + "1)", -69);
        reads(repeated("a", 60), -11);
    }

    private static Scene means(Scene x, String text, String of, int want) {
        return x.does("image()").law(0, 0, text).answers("says(0, " + of + ")", want).does("restore()");
    }

    private static void termOfMeaning() {
        section("Term 3");
        sentence("Ints; | & < = > ! are 1 or 0, what is not 0 being true; all is worked out.");
        String[] rows = {"7 7", "9999 9999", "0000 0", "0001 1", "7|0 1", "0|7 1", "0|0 0", "7|7 1", "0-1|0 1",
            "0|0-1 1", "7&7 1", "7&0 0", "0&7 0", "0-1&2 1", "2&0-1 1", "1&2&4 1", "1&2&0 0", "0|0|3 1", "!7 0", "!0 1",
            "!!7 1",
            "!(0-1) 0", "1<2 1", "2<2 0", "3<2 0", "0-1<0 1", "2=2 1", "2=3 0", "3=2 0", "2>1 1", "2>2 0", "2>3 0",
            "0>0-1 1", "1|1&0 1", "0&1|1 1", "(1|1)&0 0", "5-2-2 1", "5-(2-2) 5", "5-2+2 5", "2+2=4 1", "2=4-2 1",
            "1+(2<3) 2", "!0+3 4", "!(0+3) 0", "!1=1 0", "(2<1)<1 1", "0-9999 -9999", "3&2=2 1", "2|0=0 1",
            "9999+9999 19998", "1-2|0 1"};
        Scene x = new Scene();
        for (String row : rows) {
            String[] pair = row.split(" ");
            means(x, pair[0], "-1, -1", Integer.parseInt(pair[1]));
        }
        means(new Scene(), "10" + repeated("+1", 29), "-1, -1", 39);
        means(new Scene(), "9999" + repeated("-9999", 11), "-1, -1", -99990);
        sentence("t its TOWN (10 on the road)");
        Scene y = row(10, 1).does("person(1, 0, 0, 9)");
        means(y, "t", "0, -1", 9).does("go(0, 0)");
        means(y, "t", "0, -1", 10).does("days(9)");
        means(y, "t", "0, -1", 0);
        sentence("lie between it and THE CHILD (99 without)");
        Scene line = row(1, 1).does("person(1, -9000, 0, 0)", "person(0, -9500, 0, 0)");
        for (int i = 0; i < 18; i++) {
            line.does("person(1, " + (i - 8000) + ", " + (i == 0 ? 100 : 100 * (i + 2)) + ", 0)");
        }
        means(means(means(line, "b", "0, -1", 0), "b", "1, -1", 99), "b", "2, -1", 1);
        means(means(line, "b", "19, -1", 18), "b", "18, -1", 17);
        sentence("Without a PERSON a, s, k, c, m, t, b are 0; without a LETTER y, o, w.");
        Scene z = row(2, 1).does("person(1, -400, 0, 1)", "power(2, 0, 1)", "power(1, -1, 1)", "pay(0, 8)",
                "men(0, 9)", "draw(0, 4, 999)", "press(0, 0)", "days(3)");
        String names = "askcmtbyowd";
        int[] both = {1, 1, 1, 8, 9, 1, 0, 1, 4, 999, 3};
        for (int i = 0; i < names.length(); i++) {
            String name = names.substring(i, i + 1);
            means(z, name, "0, 0", both[i]);
            means(z, name, "-1, 0", i < 7 ? 0 : both[i]);
            means(z, name, "0, -1", i < 7 || i == 10 ? both[i] : 0);
            means(z, name, "-1, -1", i == 10 ? 3 : 0);
        }
        means(court(2).does("power(1, -1, 0)"), "b", "1, -1", 99);
        sentence("y how many MARKS are on the LETTER, o its SORT, w its WORTH, d the day.");
        Scene marked = row(2, 1).does("person(1, 0, 0, 1)").times(3, "power(2, 0, 0)").does("copy(1)", "draw(0, 2, 5)",
                "draw(0, 3, 6)", "press(1, 0)", "press(1, 1)", "press(1, 2)", "press(1, 3)");
        means(means(marked, "y", "-1, 0", 0), "y", "-1, 1", 3);
        means(means(marked, "o", "-1, 0", 2), "o", "-1, 1", 3);
        means(means(marked, "w", "-1, 0", 5), "w", "-1, 1", 6);
    }

    private static void termOfLaws() {
        section("Term 3");
        sentence("LAWS, at most 12, are TEXTS of a USE: 0 RULES, 1 GOOD, 2 FOLLOWS, 3 AGE, 4 STAYS");
        Scene x = new Scene();
        for (int i = 0; i < 12; i++) {
            x.feeds("1").answers("law(" + i % 5 + ", 0)", i);
        }
        x.feeds("1").refuses("law(0, 0)", FULL).answers("count(4)", 12).answers("count(10)", 1);
        sentence("of that USE those MADE on k or ahead, not STRUCK on k or ahead, for that day or one ahead: the one "
                + "MADE last (of one DAY the greater number)");
        Scene y = new Scene().does("days(10)").law(1, 20, "1")
                .answers("force(1, 20, 10)", 0).answers("force(1, 2000, 2000)", 0).answers("force(1, 21, 11)", 0)
                .refuses("force(1, 19, 10)", NONE).refuses("force(1, 20, 9)", NONE).refuses("force(0, 20, 10)", NONE)
                .refuses("force(2, 20, 10)", NONE).does("days(5)").law(1, 0, "1").law(1, 0, "1");
        y.answers("force(1, 0, 15)", 2).answers("force(1, 2000, 15)", 2).answers("force(1, 20, 14)", 0)
                .refuses("force(1, 19, 14)", NONE).does("days(1)", "strike(2)")
                .answers("force(1, 20, 15)", 2).answers("force(1, 20, 16)", 1).answers("force(1, 20, 2000)", 1)
                .does("days(1)", "strike(1)").answers("force(1, 20, 16)", 1).answers("force(1, 20, 17)", 0)
                .refuses("force(1, 19, 17)", NONE).does("strike(0)").refuses("force(1, 20, 17)", NONE)
                .answers("force(1, 20, 14)", 0);
        sentence("without one it is 1");
        row(1, 1).does("person(1, 0, 0, 0)", "seat(0, true)", "power(1, 0, 0)", "draw(0, 0, 0)", "send(0, 0)")
                .answers("cause(0, 1)", 2).answers("open(0)", 1).answers("age()", 0).answers("after(0)", 1);
        sentence("(k -1: none is known.)");
        new Scene().law(1, 0, "1").answers("force(1, 0, 0)", 0).refuses("force(1, 0, -1)", NONE)
                .refuses("force(1, 2000, -1)", NONE);
        row(2, 1).does("person(1, 0, 0, 1)", "draw(0, 0, 0)", "send(0, 0)").law(1, 0, "0").answers("about(0, 4)", -1)
                .would("open(0)", 1).does("days(1)").answers("about(0, 4)", 0).answers("open(0)", 0);
    }

    private static void termOfLetters() {
        section("Term 4");
        sentence("LETTERS 0, 1, .. (at most 40) are DRAWN by a PERSON that is in a TOWN: they lie there");
        Scene x = court(1);
        for (int i = 0; i < 40; i++) {
            x.answers("draw(0, 0, 0)", i);
        }
        x.refuses("draw(0, 0, 0)", FULL).answers("count(5)", 40).answers("letter(39, 0)", 0);
        row(2, 1).does("person(1, 0, 0, 1)", "person(1, 0, 0, 1)", "person(1, 0, 0, 0)", "power(2, 1, 0)",
                "power(2, 2, 0)", "draw(0, 0, 0)", "go(0, 0)", "days(1)")
                .answers("press(0, 0)", 1).refuses("press(0, 1)", STATE).answers("send(0, 2)", 2);
        sentence("SORT 0 .. 4, WORTH 0 .. 999");
        court(1).does("draw(0, 0, 0)", "draw(0, 4, 999)").answers("letter(0, 1)", 0).answers("letter(0, 2)", 0)
                .answers("letter(1, 1)", 4).answers("letter(1, 2)", 999);
        sentence("a LETTER has its MARK (again: nothing more)");
        court(1).does("power(2, 0, 0)", "power(2, 0, 0)", "copy(0)", "draw(0, 0, 0)").answers("press(0, 0)", 1)
                .answers("press(0, 0)", 1).answers("press(0, 2)", 1).answers("letter(0, 3)", 1)
                .answers("press(0, 1)", 2).answers("press(0, 1)", 2).answers("letter(0, 3)", 3);
        Scene many = court(1).times(20, "power(2, 0, 0)").does("draw(0, 0, 0)");
        for (int i = 0; i < 20; i++) {
            many.answers("press(0, " + i + ")", i + 1);
        }
        many.answers("letter(0, 3)", (1 << 20) - 1);
        sentence("SENT to a PERSON that is in a TOWN it is there FAR days later; then OPENED, if the PERSON is in "
                + "that TOWN");
        row(3, 3).does("person(1, 0, 0, 0)", "person(1, 0, 0, 2)", "draw(0, 0, 0)", "draw(0, 0, 0)", "draw(1, 0, 0)")
                .answers("send(0, 1)", 6).answers("send(1, 0)", 0).answers("send(2, 1)", 0)
                .answers("count(15)", 1).refuses("open(0)", STATE).answers("open(1)", 1)
                .does("road(0, 2, 1)", "days(5)").answers("letter(0, 5)", 6).answers("count(15)", 1)
                .refuses("open(0)", STATE).does("days(1)").answers("count(15)", 0).would("open(0)", 1)
                .does("go(1, 1)").refuses("open(0)", STATE).does("days(3)").refuses("open(0)", STATE)
                .does("go(1, 2)", "days(2)").refuses("open(0)", STATE).does("days(1)").answers("open(0)", 1)
                .answers("letter(0, 6)", 12);
        sentence("it is GOOD if the law GOOD in force on that DAY as KNOWN to it then isn't 0, of it and the LETTER");
        Scene afar = row(2, 4).does("person(1, 0, 0, 0)", "person(0, 0, 0, 1)", "draw(0, 3, 8)", "send(0, 1)",
                "days(5)");
        afar.law(1, 0, "0").does("days(3)").would("open(0)", 1).does("days(1)").would("open(0)", 0)
                .does("strike(0)", "days(3)").would("open(0)", 0).does("days(1)").would("open(0)", 1)
                .law(1, 20, "s").does("days(6)").would("open(0)", 1).does("days(1)").would("open(0)", 0)
                .law(1, 0, "w-8|y|o-3").does("days(4)").would("open(0)", 0).does("strike(2)").law(1, 0, "w-7")
                .does("days(3)").would("open(0)", 0).does("days(1)").answers("open(0)", 1);
        sentence("(that is settled then)");
        court(1).does("draw(0, 4, 0)", "send(0, 0)", "open(0)").law(1, 0, "0").answers("letter(0, 7)", 1)
                .does("draw(0, 4, 0)", "send(1, 0)", "open(1)", "strike(0)").answers("letter(1, 7)", 0)
                .refuses("obey(1)", KIND).answers("obey(0)", 0);
    }

    private static void termOfObeying() {
        section("Term 4");
        sentence("OBEYED (by whom it was SENT to, once)");
        court(2).does("draw(0, 0, 10)", "send(0, 1)", "open(0)").answers("obey(0)", 990).refuses("obey(0)", STATE)
                .answers("about(1, 1)", 10).answers("about(0, 1)", 0);
        sentence("1: it goes to TOWN WORTH modulo how many there are");
        Scene x = row(3, 2).does("person(1, 0, 0, 0)", "draw(0, 1, 2)", "draw(0, 1, 3)", "draw(0, 1, 998)",
                "draw(0, 1, 999)", "draw(0, 1, 4)");
        for (int i = 0; i < 5; i++) {
            x.does("send(" + i + ", 0)", "open(" + i + ")");
        }
        x.would("obey(0)", 4).would("obey(1)", 0).would("obey(2)", 4).would("obey(3)", 0).would("obey(4)", 2);
        x.answers("obey(0)", 4).answers("about(0, 0)", -1).does("days(4)").answers("about(0, 0)", 2)
                .answers("obey(1)", 8).does("days(4)").answers("about(0, 0)", 0);
        court(1).does("draw(0, 1, 0)", "draw(0, 1, 999)", "send(0, 0)", "send(1, 0)", "open(0)", "open(1)", "days(3)")
                .answers("obey(0)", 3).answers("obey(1)", 3).answers("about(0, 0)", 0);
        sentence("2: POWER WORTH is its own (its HOLDER; LENT no more)");
        court(3).does("power(2, 0, 0)", "lend(0, 1, 99)", "draw(0, 2, 0)", "send(0, 2)", "open(0)")
                .answers("obey(0)", 0).answers("held(0, 1)", 2).answers("held(0, 2)", 2).answers("held(0, 4)", -1);
        sentence("those that are in all of these");
        court(3).does("power(2, 0, 0)", "copy(0)", "give(1, 1)", "power(2, 1, 0)", "power(2, 2, 0)", "draw(2, 0, 0)")
                .answers("letter(0, 9)", 7).does("press(0, 0)").answers("letter(0, 9)", 3)
                .does("press(0, 2)").answers("letter(0, 9)", 2).does("press(0, 3)").answers("letter(0, 9)", 0)
                .does("press(0, 0)").answers("letter(0, 9)", 0);
        sentence("the PERSONS that were in that TOWN on that DAY and had a SEAL of that MARK, as that act was done");
        row(2, 1).does("person(1, 0, 0, 0)", "person(1, 0, 0, 0)", "person(1, 0, 0, 1)", "person(1, 0, 0, 0)",
                "power(2, 0, 0)", "copy(0)", "copy(0)", "copy(0)", "give(1, 1)", "give(2, 2)", "give(3, 3)",
                "draw(0, 0, 0)", "go(3, 1)", "press(0, 0)").answers("letter(0, 9)", 3)
                .does("lend(1, 2, 0)").answers("letter(0, 9)", 3).does("die(0)").answers("letter(0, 9)", 3);
        row(2, 1).does("person(1, 0, 0, 0)", "person(1, 0, 0, 1)", "person(1, 0, 0, 1)", "power(2, 1, 0)", "copy(0)",
                "give(1, 0)", "power(2, 2, 0)", "draw(1, 0, 0)").answers("letter(0, 9)", 6).does("press(0, 0)")
                .answers("letter(0, 9)", 2).does("copy(2)", "give(3, 1)", "press(0, 2)").answers("letter(0, 9)", 2)
                .answers("letter(0, 3)", 5);
        court(3).does("power(2, 0, 0)", "lend(0, 1, 9)", "draw(2, 0, 0)", "press(0, 0)").answers("letter(0, 9)", 2)
                .does("copy(0)", "give(1, 2)", "draw(2, 0, 0)", "press(1, 1)").answers("letter(1, 9)", 6);
        // Who came when it was DRAWN already may have PRESSED it.
        row(2, 1).does("person(1, 0, 0, 1)", "person(1, 0, 0, 0)", "power(2, 1, 0)", "draw(0, 0, 0)", "go(1, 1)",
                "days(1)").answers("letter(0, 9)", 1).does("press(0, 0)").answers("letter(0, 9)", 2);
        sentence("(Without a PRESSING all that were in the TOWN as it was DRAWN.)");
        row(2, 1).does("person(1, 0, 0, 0)", "person(1, 0, 0, 1)", "draw(1, 0, 0)").answers("letter(0, 9)", 2);
        row(2, 1).does("person(1, 0, 0, 1)", "person(1, 0, 0, 0)", "person(1, 0, 0, 1)", "person(1, 0, 0, 1)",
                "go(3, 0)", "draw(0, 0, 0)").answers("letter(0, 9)", 5)
                .does("person(1, 0, 0, 1)", "go(0, 0)", "days(1)").answers("letter(0, 9)", 5);
        Scene full = court(20).does("draw(19, 0, 0)").answers("letter(0, 9)", (1 << 20) - 1);
        full.does("power(2, 19, 0)", "press(0, 0)").answers("letter(0, 9)", 1 << 19);
    }

    private static void termOfDays() {
        section("Term 5");
        sentence("LENT SEALS whose day is past are with their HOLDER");
        court(2).does("power(2, 0, 0)", "lend(0, 1, 90)", "days(90)").answers("held(0, 2)", 1).does("days(1)")
                .answers("held(0, 2)", 0);
        sentence("If DAY divides by 90, a QUARTER");
        row(1, 1).does("rent(0, 1)", "days(89)").answers("count(9)", 1000).does("days(1)").answers("count(9)", 1001)
                .does("days(1)").answers("count(9)", 1001).does("days(88)").answers("count(9)", 1001)
                .does("days(1)").answers("count(9)", 1002).times(4, "days(400)").answers("count(9)", 1019)
                .does("days(199)").answers("count(9)", 1021).does("days(1)").answers("count(9)", 1022)
                .does("days(20)").answers("count(9)", 1022);
        sentence("(0 .. 999; 0 at first) comes, by numbers, to its OWNER (a PERSON; -1, as at first, THE CHEST; of "
                + "one that is FORFEIT to a banker, whose COIN is told nowhere); an OWNER that is dead: THE CHEST");
        row(10, 1).times(2, "person(1, 0, 0, 0)").does("rent(0, 999)", "rent(9, 998)", "rent(1, 1)", "own(9, 1)",
                "days(90)").answers("count(9)", 2000).answers("about(1, 1)", 998).answers("about(0, 1)", 0)
                .does("die(1)", "days(90)").answers("count(9)", 3998 + 998).answers("about(1, 1)", 0);
        sentence("PERSONS, by numbers, pay each of their MEN 1 COIN, as far as it goes; MEN that are not paid go");
        court(5).does("men(0, 7)", "pay(0, 7)", "men(1, 7)", "pay(1, 6)", "men(2, 7)", "men(3, 7)", "pay(3, 8)",
                "pay(4, 5)", "days(90)")
                .answers("about(0, 1)", 0).answers("about(0, 2)", 7).answers("about(1, 1)", 0)
                .answers("about(1, 2)", 6).answers("about(2, 1)", 0).answers("about(2, 2)", 0)
                .answers("about(3, 1)", 1).answers("about(3, 2)", 7).answers("about(4, 1)", 5)
                .answers("about(4, 2)", 0);
        court(1).does("own(0, 0)", "rent(0, 5)", "men(0, 9)", "days(90)").answers("about(0, 2)", 5)
                .answers("about(0, 1)", 0);
    }

    /** A DEBT of so much, so many terms, and THE CHEST with so much; PERSON 1 has the rest. */
    private static Scene indebted(int owed, int terms, int chest) {
        Scene x = court(2).does("debt(" + owed + ", " + terms + ", 0)");
        int much = 1000 + owed - chest;
        for (int i = 0; i < 20 && much > 0; i++) {
            x.does("pay(1, " + Math.min(much, 9999) + ")");
            much -= Math.min(much, 9999);
        }
        return x.answers("count(9)", chest);
    }

    private static void termOfDebts() {
        section("Term 5");
        sentence("DEBTS (at most 6), by numbers");
        row(1, 1).times(6, "debt(0, 1, 0)").refuses("debt(0, 1, 0)", FULL).answers("count(6)", 6);
        court(2).does("debt(50, 10, 0)", "debt(50, 10, 0)", "debt(50, 5, 0)", "pay(1, 1000)", "pay(1, 135)",
                "days(90)").answers("owed(0, 0)", 40).answers("owed(1, 1)", 1).answers("owed(1, 0)", 50)
                .answers("owed(2, 0)", 45).answers("count(9)", 0);
        sentence("OWED (0 .. 99999) is more by OWED times RATE (0 .. 99) by 100, 999999 at most");
        indebted(99999, 990001, 5000).does("days(90)").answers("owed(0, 0)", 198997).does("days(90)")
                .answers("owed(0, 0)", 396003).does("days(90)").answers("owed(0, 0)", 788044).does("days(90)")
                .answers("owed(0, 0)", 999998).does("days(90)").answers("owed(0, 0)", 999998)
                .answers("owed(0, 1)", 0).answers("count(9)", 4995);
        indebted(99999, 999999, 0).does("days(360)").answers("owed(0, 0)", 999999).does("days(90)")
                .answers("owed(0, 0)", 999999).answers("owed(0, 1)", 5);
        indebted(100, 10001, 500).does("days(90)").answers("owed(0, 0)", 100);
        indebted(99, 10001, 500).does("days(90)").answers("owed(0, 0)", 98);
        indebted(500, 9, 500).does("days(90)").answers("owed(0, 0)", 491);
        sentence("then THE CHEST pays DUE (1 .. 9999), or OWED if that is less, if it has as much; else it is MISSED "
                + "once more");
        indebted(100, 10, 10).does("days(90)").answers("owed(0, 0)", 90).answers("owed(0, 1)", 0)
                .answers("count(9)", 0);
        indebted(100, 10, 9).does("days(90)").answers("owed(0, 0)", 100).answers("owed(0, 1)", 1)
                .answers("count(9)", 9);
        indebted(5, 10, 5).does("days(90)").answers("owed(0, 0)", 0).answers("owed(0, 1)", 0).answers("count(9)", 0);
        indebted(5, 10, 4).does("days(90)").answers("owed(0, 0)", 5).answers("owed(0, 1)", 1).answers("count(9)", 4);
        indebted(9, 100010, 9).does("days(90)").answers("owed(0, 0)", 0).answers("count(9)", 0);
        indebted(10, 100010, 10).does("days(90)").answers("owed(0, 0)", 1).answers("count(9)", 0);
        indebted(99999, 9999, 9999).does("days(90)").answers("owed(0, 0)", 90000).answers("count(9)", 0);
        indebted(100, 10, 8).does("rent(0, 2)", "days(90)").answers("owed(0, 0)", 90).answers("count(9)", 0);
        sentence("(one of which nothing is OWED is never MISSED)");
        indebted(0, 10, 0).does("days(270)").answers("owed(0, 1)", 0).answers("owed(0, 2)", 0);
        indebted(0, 999999, 0).does("days(90)").answers("owed(0, 0)", 0).answers("owed(0, 1)", 0);
        indebted(5, 5, 5).does("days(270)").answers("owed(0, 0)", 0).answers("owed(0, 1)", 0);
        sentence("with the second time its pledge, a TOWN, is FORFEIT");
        indebted(100, 10, 0).does("own(0, 1)", "rent(0, 3)", "days(90)").answers("owed(0, 1)", 1)
                .answers("owed(0, 2)", 0).answers("own(0, 1)", 1).answers("about(1, 1)", 1103).does("days(90)")
                .answers("owed(0, 1)", 2).answers("owed(0, 2)", 1).refuses("own(0, -1)", STATE)
                .answers("about(1, 1)", 1106).does("days(90)").answers("about(1, 1)", 1106).answers("count(9)", 0)
                .answers("owed(0, 1)", 3).answers("rent(0, 4)", 3);
        indebted(100, 10, 9).does("days(90)", "rent(0, 11)", "days(90)").answers("owed(0, 1)", 1)
                .answers("owed(0, 0)", 90).answers("count(9)", 10).does("pay(1, 10)", "rent(0, 0)", "days(90)")
                .answers("owed(0, 1)", 2).answers("owed(0, 2)", 1);
    }

    private static void termOfCouncil() {
        section("Term 6");
        sentence("PERSONS that are SEATED (at most 9; who dies isn't any more)");
        Scene x = court(11);
        for (int i = 0; i < 9; i++) {
            x.answers("seat(" + (i + 1) + ", true)", i + 1);
        }
        x.refuses("seat(10, true)", FULL).answers("count(11)", 9).does("die(9)").answers("count(11)", 8)
                .answers("about(9, 7)", 0).answers("seat(10, true)", 9).refuses("seat(0, true)", FULL);
        sentence("PROMISES, at most 30: a PERSON that is SEATED promises to vote for a CAUSE (0 .. 5), or against, "
                + "till a day (with it)");
        Scene y = court(1).does("seat(0, true)");
        for (int i = 0; i < 30; i++) {
            y.answers("promise(0, " + i % 6 + ", 0, true)", i);
        }
        y.refuses("promise(0, 0, 0, true)", FULL).answers("count(7)", 30).answers("cause(5, 0)", 1).does("days(1)")
                .answers("cause(5, 0)", 0).refuses("promise(0, 0, 1, true)", FULL);
        sentence("it stands till it is BROKEN, that day is past, one of the same PERSON and CAUSE comes behind it, or "
                + "the PERSON is no more SEATED");
        court(3).does("seat(0, true)", "seat(1, true)", "seat(2, true)", "promise(0, 0, 5, true)",
                "promise(1, 0, 6, true)", "promise(2, 0, 9, true)", "promise(0, 1, 9, true)")
                .answers("cause(0, 0)", 3).does("days(5)").answers("cause(0, 0)", 3).would("breaks(0)", 1)
                .does("days(1)").answers("cause(0, 0)", 2).refuses("breaks(0)", STATE).does("breaks(1)")
                .answers("cause(0, 0)", 1).refuses("breaks(1)", STATE).does("promise(2, 0, 9, true)")
                .refuses("breaks(2)", STATE).answers("cause(0, 0)", 1).does("promise(2, 1, 9, false)")
                .answers("cause(0, 0)", 1).answers("cause(1, 0)", 1).does("promise(2, 0, 9, false)")
                .answers("cause(0, 0)", 0).refuses("breaks(4)", STATE).does("seat(0, false)")
                .refuses("breaks(3)", STATE).does("seat(0, true)").answers("cause(1, 0)", 0)
                .refuses("breaks(3)", STATE).does("die(2)").refuses("breaks(6)", STATE)
                .answers("cause(0, 3)", 1).answers("cause(1, 3)", -1);
        Scene others = court(4);
        for (int i = 0; i < 4; i++) {
            others.does("seat(" + i + ", true)");
        }
        others.does("promise(3, 3, 9, true)", "promise(3, 4, 9, true)", "promise(2, 4, 9, true)",
                "promise(2, 3, 9, true)", "promise(1, 3, 9, true)").answers("cause(3, 0)", 3).answers("cause(4, 0)", 2)
                .does("promise(2, 3, 9, false)").answers("cause(3, 0)", 2).answers("cause(4, 0)", 2)
                .does("seat(2, false)").answers("cause(3, 0)", 2).answers("cause(4, 0)", 1)
                .would("breaks(0)", 1).would("breaks(1)", 1).would("breaks(4)", 1);
        court(1).does("seat(0, true)", "promise(0, 0, 9, true)", "promise(0, 1, 9, true)", "seat(0, false)")
                .refuses("breaks(0)", STATE).refuses("breaks(1)", STATE).does("seat(0, true)").answers("cause(0, 0)", 0)
                .answers("cause(1, 0)", 0).answers("cause(0, 3)", -1).answers("cause(1, 3)", -1);
        court(1).does("seat(0, true)", "promise(0, 0, 9, true)", "promise(0, 1, 9, true)", "die(0)")
                .refuses("breaks(0)", STATE).refuses("breaks(1)", STATE).answers("cause(0, 3)", -1);
        sentence("WEIGHT of one SEATED: 1, and 1 for each OFFICE (what is under it, too) that it holds");
        Scene w = court(3).does("seat(1, true)");
        int[] weights = {1, 2, 2, 3, 4, 4};
        for (int kind = 0; kind < 6; kind++) {
            w.does("power(" + kind + ", 1, 0)", "power(" + kind + ", 2, 0)", "power(" + kind + ", -1, 0)")
                    .answers("cause(0, 1)", weights[kind]);
        }
        sentence("0 if the law RULES in force on the DAY, as KNOWN to who is SEATED with the least number, is 0 of "
                + "it");
        row(3, 2).does("person(1, 0, 0, 2)", "person(1, -720, 0, 1)", "person(1, -720, 0, 0)", "power(1, 2, 0)",
                "seat(1, true)", "seat(2, true)").law(0, 5, "a-2").answers("cause(0, 1)", 3).does("days(4)")
                .answers("cause(0, 1)", 3).does("days(1)").answers("cause(0, 1)", 0).does("seat(0, true)")
                .answers("cause(0, 1)", 1).does("seat(0, false)").law(0, 0, "s").answers("cause(0, 1)", 0)
                .does("days(1)").answers("cause(0, 1)", 0).does("days(1)").answers("cause(0, 1)", 3)
                .does("seat(1, false)").answers("cause(0, 1)", 2);
        row(2, 9).does("person(1, 0, 0, 1)", "person(1, 0, 0, 0)", "seat(1, true)").law(0, 0, "0")
                .answers("cause(0, 1)", 0).does("seat(0, true)").answers("cause(0, 1)", 2).does("days(8)")
                .answers("cause(0, 1)", 2).does("days(1)").answers("cause(0, 1)", 0);
        court(1).does("seat(0, true)", "days(4)").law(0, 0, "d-5").answers("cause(0, 1)", 1).does("days(1)")
                .answers("cause(0, 1)", 0).does("days(1)").answers("cause(0, 1)", 1);
        court(1).does("draw(0, 1, 9)", "seat(0, true)").law(0, 0, "1-w").answers("cause(0, 1)", 1).law(0, 0, "w")
                .answers("cause(0, 1)", 0).answers("cause(0, 2)", 0);
        sentence("CARRIED is a CAUSE if WEIGHTS of those who promised for it are more than half of all WEIGHTS of the "
                + "SEATED.");
        court(6).answers("cause(0, 2)", 0).does("seat(1, true)").answers("cause(0, 2)", 0)
                .does("promise(1, 0, 9, true)").answers("cause(0, 2)", 1).does("seat(2, true)")
                .answers("cause(0, 2)", 0).does("promise(2, 0, 9, true)", "seat(3, true)").answers("cause(0, 2)", 1)
                .does("seat(4, true)").answers("cause(0, 2)", 0).does("promise(3, 0, 9, true)", "seat(5, true)")
                .answers("cause(0, 2)", 1).does("promise(3, 0, 9, false)").answers("cause(0, 2)", 0);
    }

    private static void termOfBuying() {
        section("Term 6");
        sentence("PRICES (1 .. 999; 1 at first)");
        court(2).answers("about(1, 9)", 1).answers("price(1, 999)", 1).answers("price(1, 1)", 999);
        sentence("for its PRICE one SEATED that didn't promise, or promised against, would promise for it");
        court(4).does("seat(1, true)", "seat(2, true)", "seat(3, true)", "price(0, 1)", "price(1, 2)", "price(2, 4)",
                "price(3, 8)").answers("buying(0, 0)", 6).answers("buying(0, 1)", 6)
                .does("promise(1, 0, 9, true)").answers("buying(0, 0)", 4).answers("buying(0, 1)", 4)
                .does("promise(2, 0, 9, false)").answers("buying(0, 0)", 4).answers("buying(0, 1)", 4)
                .does("promise(1, 0, 9, false)").answers("buying(0, 0)", 6).answers("buying(1, 0)", 6);
        sentence("with the least PRICES together with which it is CARRIED; of several that with the fewest PERSONS, "
                + "then the least as bits");
        Scene nine = court(10);
        for (int i = 1; i <= 9; i++) {
            nine.does("seat(" + i + ", true)", "price(" + i + ", 999)");
        }
        nine.answers("buying(0, 0)", 4995).answers("buying(0, 1)", 62).does("price(9, 998)")
                .answers("buying(0, 0)", 4994).answers("buying(0, 1)", 512 + 30).times(11, "power(1, 9, 0)")
                .answers("buying(0, 0)", 998).answers("buying(0, 1)", 512);
        // All WEIGHTS are 8: {1, 2, 3} have 3 of them, {4} has 5.
        court(5).does("seat(1, true)", "seat(2, true)", "seat(3, true)", "seat(4, true)").times(4, "power(1, 4, 0)")
                .does("price(4, 3)").answers("buying(0, 0)", 3).answers("buying(0, 1)", 16)
                .does("price(4, 999)").answers("buying(0, 0)", 999);
        // WEIGHTS 1, 1, 1, 2 of 5: {4} and one are enough for 3, and so are {1, 2, 3}.
        court(5).does("seat(1, true)", "seat(2, true)", "seat(3, true)", "seat(4, true)", "power(1, 4, 0)",
                "price(4, 2)").answers("buying(0, 0)", 3).answers("buying(0, 1)", 18)
                .does("price(4, 3)").answers("buying(0, 0)", 3).answers("buying(0, 1)", 14)
                .does("price(4, 1)").answers("buying(0, 0)", 2).answers("buying(0, 1)", 18);
    }

    /** SEATED PERSONS with so many OFFICES and such PRICES, of which PERSON 0 has promised for CAUSE 0. */
    private static Scene weighted(int[] offices, int[] prices) {
        Scene x = court(offices.length);
        for (int i = 0; i < offices.length; i++) {
            x.does("seat(" + i + ", true)", "price(" + i + ", " + prices[i] + ")")
                    .times(offices[i], "power(1, " + i + ", 0)");
        }
        return x.does("promise(0, 0, 9, true)");
    }

    private static void termOfLevelBuying() {
        section("Term 6");
        sentence("of several that with the fewest PERSONS, then the least as bits");
        // WEIGHTS 1, 1, 2, 2, 3 of 9: 4 more are due, and {1, 4} and {2, 3} have them for 6.
        weighted(new int[] {0, 0, 1, 1, 2}, new int[] {1, 1, 3, 3, 5}).answers("buying(0, 0)", 6)
                .answers("buying(0, 1)", 12);
        // WEIGHTS 1, 3, 1, 2, 2 of 9: {1, 2} and {3, 4} have 4 more for 6.
        weighted(new int[] {0, 2, 0, 1, 1}, new int[] {1, 5, 1, 3, 3}).answers("buying(0, 0)", 6)
                .answers("buying(0, 1)", 6);
        // WEIGHTS 1, 1, 1, 2 of 5: 2 more are due, and {3} and {1, 2} have them for 2.
        weighted(new int[] {0, 0, 0, 1}, new int[] {1, 1, 1, 2}).answers("buying(0, 0)", 2).answers("buying(0, 1)", 8);
        weighted(new int[] {0, 1, 0, 0}, new int[] {1, 2, 1, 1}).answers("buying(0, 0)", 2).answers("buying(0, 1)", 2);
        // WEIGHTS 1, 2, 1, 1, 3 of 8: 4 more are due, for 3 by {1, 2, 3}, {1, 4}, {2, 4} or {3, 4}.
        weighted(new int[] {0, 1, 0, 0, 2}, new int[] {9, 1, 1, 1, 2}).answers("buying(0, 0)", 3)
                .answers("buying(0, 1)", 18);
        // All WEIGHTS are 1: of 8 four more are due, and all PRICES are level.
        weighted(new int[] {0, 0, 0, 0, 0, 0, 0, 0}, new int[] {1, 7, 7, 7, 7, 7, 7, 7}).answers("buying(0, 0)", 28)
                .answers("buying(0, 1)", 30).does("price(1, 8)").answers("buying(0, 1)", 60).does("price(7, 6)")
                .answers("buying(0, 0)", 27).answers("buying(0, 1)", 128 + 28);
    }

    private static Scene guards(int... numbers) {
        Scene x = new Scene();
        for (int i = 0; i < numbers.length; i++) {
            x.does("guard(" + i + ", " + numbers[i] + ")");
        }
        return x;
    }

    private static void termOfNight() {
        section("Term 7");
        sentence("GATES 0 .. 4 in a row, each with GUARDS (0 .. 6; 0 at first)");
        new Scene().answers("guard(0, 6)", 0).answers("guard(4, 6)", 0).answers("guard(0, 0)", 6)
                .answers("guard(4, 1)", 6).answers("guard(1, 1)", 0);
        sentence("GATE 0 is open to those who come with MEN (1 .. 20)");
        guards(6).answers("night(1, 3, 0, 0)", 0).answers("night(20, 1, 0, 0)", 1);
        sentence("they take a GATE that is GATE 0 or beside one that they took, and not taken, if their MEN are more "
                + "than its GUARDS (MEN are less by these), or take none");
        guards(6, 0, 0, 0, 0).answers("night(6, 1, 0, 0)", 0).answers("night(7, 1, 0, 0)", 1)
                .answers("night(7, 2, 1, 0)", 1).answers("night(7, 3, 2, 0)", 1).answers("night(7, 3, 3, 0)", 0)
                .answers("night(20, 3, 4, 0)", 0).answers("night(20, 2, 2, 0)", 0).answers("night(20, 1, 1, 0)", 0);
        guards(1, 6, 0, 0, 0).answers("night(7, 2, 1, 0)", 0).answers("night(8, 2, 1, 0)", 1);
        sentence("then one GUARD goes from a GATE that isn't taken to one beside it that isn't either (6 at most "
                + "there), or none goes");
        guards(0, 5, 1, 0, 0).answers("night(6, 2, 1, 0)", 0).answers("night(7, 2, 1, 0)", 1);
        guards(0, 6, 6, 0, 0).answers("night(7, 2, 1, 0)", 1).answers("night(6, 2, 1, 0)", 0);
        guards(0, 5, 0, 6, 0).answers("night(6, 2, 1, 0)", 1).answers("night(5, 2, 1, 0)", 0);
        guards(6, 2, 0, 0, 0).answers("night(8, 2, 1, 0)", 0).answers("night(9, 2, 1, 0)", 1);
        guards(0, 0, 0, 0, 1).answers("night(1, 3, 2, 0)", 0).answers("night(2, 3, 2, 0)", 1);
        guards(0, 0, 0, 1, 0).answers("night(1, 2, 1, 0)", 1).answers("night(1, 3, 2, 0)", 0);
        guards(0, 0, 0, 2, 0).answers("night(2, 3, 2, 0)", 0).answers("night(3, 3, 2, 0)", 1);
        // All GUARDS together are 4: 5 MEN are more than these, wherever they are.
        guards(0, 2, 2, 0, 0).answers("night(5, 3, 2, 0)", 1).answers("night(4, 3, 2, 0)", 0);
        sentence("THEY WIN if they can take a told GATE within the HOURS whatever GUARDS do.");
        new Scene().answers("night(1, 1, 0, 0)", 1).answers("night(1, 2, 0, 0)", 1).answers("night(1, 3, 0, 0)", 1)
                .answers("night(1, 2, 1, 0)", 1).answers("night(1, 3, 2, 0)", 1).answers("night(1, 3, 1, 0)", 1);
    }

    private static void termOfFollowing() {
        section("Term 8");
        sentence("living PERSONS but THE CHILD of whom the law FOLLOWS in force on the DAY as KNOWN at the COURT (the "
                + "DAY) isn't 0, and that are of its blood (b isn't 99): by b, then by the day of birth, then by "
                + "numbers");
        Scene x = row(2, 9).does("person(1, -9000, 0, 0)", "person(0, -9000, 0, 0)", "person(1, -3000, 102, 0)",
                "person(0, -3001, 100, 1)", "person(1, -3000, 100, 0)", "person(1, -1000, 304, 0)",
                "person(1, -9001, 0, 0)");
        x.answers("heir(0)", 3).answers("heir(1)", 2).answers("heir(2)", 4).answers("heir(3)", 1);
        x.answers("heir(4)", 5).refuses("heir(5)", NONE).does("die(2)").answers("heir(1)", 4)
                .law(2, 1, "1-s").answers("heir(0)", 3).answers("heir(3)", 5).does("days(1)")
                .answers("heir(0)", 3).answers("heir(1)", 1).refuses("heir(2)", NONE)
                .law(2, 0, "0-1").answers("heir(3)", 5).law(2, 0, "0").refuses("heir(0)", NONE)
                .does("strike(2)").answers("heir(3)", 5);
        // PERSON 2 is older than all but farther off than 1 and 3; 4 is farther off than 3, and younger.
        row(1, 1).does("person(1, -9000, 0, 0)", "person(1, -6000, 100, 0)", "person(0, -9500, 0, 0)",
                "person(1, -3000, 203, 0)", "person(1, -1000, 400, 0)", "person(0, -2000, 400, 0)")
                .answers("about(2, 8)", 3).answers("heir(0)", 1).answers("heir(1)", 3).answers("heir(2)", 2)
                .answers("heir(3)", 5).answers("heir(4)", 4).refuses("heir(5)", NONE);
        row(1, 1).does("person(1, -9000, 0, 0)", "person(1, -6000, 100, 0)", "draw(0, 2, 3)").law(2, 0, "y|o|w")
                .refuses("heir(0)", NONE).law(2, 0, "1-w-o").answers("heir(0)", 1).does("days(4)").law(2, 0, "d-5")
                .answers("heir(0)", 1).does("days(1)").refuses("heir(0)", NONE).does("days(1)").answers("heir(0)", 1);
        sentence("the first day, from the DAY on, on which the law AGE in force then, as KNOWN at the COURT on the "
                + "DAY, isn't 0 of THE CHILD (a, d as of that day; all else as now)");
        row(2, 1).does("person(1, 0, 0, 1)").law(3, 0, "a").answers("age()", 360).does("days(360)")
                .answers("age()", 360).does("days(1)").answers("age()", 361).law(3, 0, "a>4").answers("age()", 1800)
                .law(3, 0, "a>5").refuses("age()", NONE).law(3, 0, "d>1999").answers("age()", 2000)
                .law(3, 0, "d=2001").refuses("age()", NONE).law(3, 0, "d<361").refuses("age()", NONE)
                .law(3, 0, "d<362").answers("age()", 361).law(3, 0, "0-1").answers("age()", 361)
                .law(3, 0, "t").answers("age()", 361).law(3, 0, "c").refuses("age()", NONE).does("pay(0, 1)")
                .answers("age()", 361);
        row(1, 1).does("person(1, 0, 0, 0)", "days(10)").law(3, 11, "0").answers("age()", 10).law(3, 10, "0")
                .refuses("age()", NONE).law(3, 2000, "1").answers("age()", 2000).law(3, 1999, "1")
                .answers("age()", 1999).law(3, 10, "0").refuses("age()", NONE).does("strike(4)")
                .answers("age()", 1999).times(4, "days(400)").does("days(390)").answers("age()", 2000);
        row(1, 1).does("person(1, -100, 0, 0)", "draw(0, 2, 3)").law(3, 0, "a=3").answers("age()", 980)
                .law(3, 0, "a>0").answers("age()", 260).does("days(260)").answers("age()", 260).law(3, 0, "y|o|w")
                .refuses("age()", NONE).law(3, 0, "1-w-o").answers("age()", 260);
        row(1, 1).does("person(1, -20000, 0, 0)").law(3, 0, "a>55").answers("age()", 160).law(3, 0, "a>60")
                .answers("age()", 1960).law(3, 0, "a>61").refuses("age()", NONE);
        row(1, 1).does("person(1, 0, 0, 0)").law(3, 0, "a=2&d>800").answers("age()", 801).law(3, 900, "d=1000")
                .answers("age()", 801).law(3, 801, "0").refuses("age()", NONE);
    }

    private static void termOfStaying() {
        section("Term 8");
        sentence("comes to of its HOLDER (a, d as of that day; or of no PERSON): 0 it ends, 1 it goes on, else (2) it "
                + "must be asked anew");
        String[] texts = {"0", "1", "2", "9999", "0-1", "0-9999", "k+1", "k", "d", "d-360", "d-358", "a-9", "a-8", "c"};
        int[] held = {0, 1, 2, 2, 2, 2, 2, 1, 2, 0, 2, 0, 1, 0};
        int[] free = {0, 1, 2, 2, 2, 2, 1, 0, 2, 0, 2, 2, 2, 0};
        for (int i = 0; i < texts.length; i++) {
            row(1, 1).does("person(1, 0, 0, 0)", "person(1, -2880, 0, 0)", "power(1, 1, 0)", "power(1, -1, 0)")
                    .law(3, 0, "a").law(4, 0, texts[i]).answers("age()", 360)
                    .answers("after(0)", held[i]).answers("after(1)", free[i]);
        }
        court(1).does("power(1, 0, 0)", "draw(0, 2, 3)").law(4, 0, "y|o|w").answers("after(0)", 0).law(4, 0, "1-w-o")
                .answers("after(0)", 1);
        sentence("in force on that day, as known likewise");
        row(1, 1).does("person(1, 0, 0, 0)", "power(1, 0, 0)").law(3, 0, "a").law(4, 360, "0").answers("after(0)", 0)
                .law(4, 361, "2").answers("after(0)", 0).law(4, 359, "3").answers("after(0)", 2)
                .does("strike(3)").answers("after(0)", 0).does("strike(1)").answers("after(0)", 1)
                .does("days(5)").law(4, 0, "2").answers("after(0)", 2).does("strike(4)").answers("after(0)", 1);
    }

    private static Scene costs(Scene x, int sheet, int... numbers) {
        x.does("sheet(" + sheet + ", 32, " + numbers.length + ")");
        for (int i = 0; i < numbers.length; i++) {
            x.does("put(" + sheet + ", " + i + ", " + numbers[i] + ")");
        }
        return x;
    }

    private static Scene rented(int... rents) {
        Scene x = row(rents.length, 1).does("person(1, 0, 0, 0)");
        for (int i = 0; i < rents.length; i++) {
            x.does("rent(" + i + ", " + rents[i] + ")");
        }
        return x;
    }

    private static Scene leaves(Scene x, int want, int... pledged) {
        x.answers("plan(0, -1)", want);
        for (int i = 0; i < pledged.length; i++) {
            x.answers("plan(0, " + i + ")", pledged[i]);
        }
        return x.refuses("plan(0, " + pledged.length + ")", BEYOND);
    }

    private static void termOfPlans() {
        section("Term 9");
        sentence("in each first RENTS of TOWNS 0 .. 5 that are not pledged by THE PLAN, nor FORFEIT, and whose OWNER "
                + "is THE CHEST, come in");
        leaves(costs(rented(1, 2, 4, 8, 16, 32, 64), 0, 0), 1000 + 63 + 8 * 63, -1);
        leaves(costs(rented(1, 2, 4, 8, 16, 32).does("own(5, 0)", "own(0, 0)"), 0, 0, 0), 1000 + 60 + 240, -1, -1);
        Scene forfeit = indebted(100, 10, 0).does("town()", "days(180)", "rent(0, 50)", "rent(1, 3)");
        leaves(costs(forfeit, 0, 3), 24, -1);
        leaves(costs(forfeit, 0, 15), 0, 1);
        costs(forfeit, 0, 16).refuses("plan(0, -1)", STATE);
        leaves(costs(rented(7), 0, 1007, 7), 56, -1, -1);
        leaves(costs(rented(7), 0, 1007, 8), 1014 + 28 - 1015, -1, 0);
        leaves(costs(rented(7), 0, 1008, 0), 27, 0, -1);
        sentence("then one of these may be pledged (for 4 times its RENT), or none; then a COST told for it is paid: "
                + "nothing may be owed");
        leaves(costs(rented(10), 0, 1050), 0, 0);
        costs(rented(10), 0, 1051).refuses("plan(0, -1)", STATE).refuses("plan(0, 0)", STATE);
        leaves(costs(rented(10, 20), 0, 1030 + 80), 80, 1);
        costs(rented(10, 20), 0, 1030 + 81).refuses("plan(0, -1)", STATE);
        leaves(costs(rented(10, 20), 0, 1110, 10 + 40), 0, 1, 0);
        costs(rented(10, 20), 0, 1110, 51).refuses("plan(0, -1)", STATE);
        sentence("of several that in which at the first QUARTER at which they are unlike none is pledged, else the "
                + "lesser TOWN");
        leaves(costs(rented(0, 0, 0), 0, 0, 0, 1000), 0, -1, -1, -1);
        leaves(costs(rented(5, 5, 5), 0, 1016), 1015 + 20 - 1016 + 80, 0);
        leaves(costs(rented(5, 5, 5), 0, 1035, 30), 40, 0, 1);
        leaves(costs(rented(5, 5, 5, 5, 5, 5), 0, 1050, 45, 40, 35, 30, 25, 0, 0), 0, 0, 1, 2, 3, 4, 5, -1, -1);
        leaves(costs(rented(1, 1).does("pay(0, 1000)"), 0, 3, 6), 2, 0, 1);
        // TOWN 0 ahead of TOWN 1 leaves nothing, and so does TOWN 1, then none, then TOWN 0.
        leaves(costs(rented(2, 4).does("pay(0, 996)"), 0, 15, 11, 12), 0, 0, 1, -1);
        leaves(costs(rented(3, 3), 0, 0, 1012), 1012 - 1012 + 48, -1, -1);
        leaves(costs(rented(3, 3), 0, 0, 1013), 1012 + 12 - 1013 + 24, -1, 0);
        sentence("that which leaves the most COIN and 8 times the RENT of each of these TOWNS that isn't pledged");
        // TOWN 1 alone is enough for both; TOWNS 0 and 2, one by one, would leave 80 less.
        leaves(costs(rented(20, 30, 20), 0, 1110, 120), 1000 + 70 + 120 - 1110 + 40 - 120 + 320, 1, -1);
        leaves(costs(rented(2, 1).does("pay(0, 1000)"), 0, 1, 14), 2, 1, 0);
        leaves(costs(rented(10, 11), 0, 1061), 1021 + 40 - 1061 + 88, 0);
        leaves(costs(rented(10, 11), 0, 1062), 1021 + 44 - 1062 + 80, 1);
        leaves(costs(rented(11, 10), 0, 1061), 1021 + 40 - 1061 + 88, 1);
        sentence("A PLAN for n (1 .. 8) QUARTERS");
        leaves(costs(rented(9), 0, 0, 0, 0, 0, 0, 0, 0, 0), 1000 + 72 + 72, -1, -1, -1, -1, -1, -1, -1, -1);
        leaves(costs(rented(9), 0, 0), 1009 + 72, -1);
        costs(rented(9), 0, 0, 0, 0, 0, 0, 0, 0, 0, 0).refuses("plan(0, -1)", BEYOND);
        costs(rented(9), 0).refuses("plan(0, -1)", BEYOND);
        sentence("(It begins with THE CHEST; all else as it is.)");
        leaves(costs(costs(rented(10, 10), 1, 0, 0), 0, 1060).answers("plan(1, -1)", 1200), 1020 + 40 - 1060 + 80, 0)
                .answers("plan(1, 0)", -1).answers("plan(0, 0)", 0).does("own(0, 0)").answers("plan(1, -1)", 1100)
                .refuses("plan(0, -1)", STATE).does("own(0, -1)").answers("plan(0, -1)", 80).does("rent(0, 11)")
                .answers("plan(0, 0)", 1).answers("plan(0, -1)", 1 + 88);
        leaves(costs(rented(9).does("pay(0, 1000)"), 0, 9), 72, -1);
        leaves(costs(rented(9).does("pay(0, 1000)"), 0, 45), 0, 0);
        costs(rented(9).does("pay(0, 1000)"), 0, 46).refuses("plan(0, 0)", STATE);
        leaves(costs(rented(9).does("debt(99999, 9, 0)"), 0, 9999), 91081, -1).answers("count(9)", 100999);
    }

    private static void termOfVoices() {
        section("Term 10");
        sentence("with a number x (ints that go round)");
        Scene x = court(1);
        for (int kind = 0; kind < 6; kind++) {
            x.does("power(" + kind + ", 0, 99)");
        }
        x.answers("voice(0, 0, 2147483647)", MIN + 98).answers("voice(0, 0, 2147483548)", MAX)
                .answers("voice(0, 0, 2147483549)", MIN).answers("voice(0, 1, 1073741724)", MAX - 1)
                .answers("voice(0, 1, 1073741725)", MIN).answers("voice(0, 2, -2147483648)", MIN)
                .answers("voice(1, 2, -2147483648)", MAX).answers("voice(1, 0, 2147483547)", MAX)
                .answers("voice(1, 0, 2147483548)", MIN).answers("voice(1, 3, 2147483647)", tellOfOffice(MAX))
                .answers("voice(2, 2, 715827884)", MAX - 1).answers("voice(2, 2, 715827885)", MIN + 1)
                .answers("voice(2, 2, -715827880)", MIN + 2).answers("voice(2, 2, -715827881)", MAX)
                .answers("voice(4, 0, -2147483648)", MIN + 4).answers("voice(4, 0, 2147483647)", MIN + 3)
                .answers("voice(3, 1, 2147483647)", MIN + 101).answers("voice(5, 1, 1073741675)", MAX)
                .answers("voice(5, 1, 1073741676)", MIN + 1);
        sentence("act(..) is the BODY of its KIND, or of the next KIND above that has one; super.act(..) that from "
                + "the KIND above the BODY's on.");
        int[][] said = {{104, 208, 5, 208 ^ 5}, {105, 210, 4, 212 ^ 5}, {104, 208, 9, 208 ^ 9}, {107, 107, 2, 108 ^ 3},
            {9, 9, 1, 1 - (10 ^ 2)}, {104, 307, 0, 307}};
        for (int kind = 0; kind < 6; kind++) {
            for (int act = 0; act < 4; act++) {
                x.answers("voice(" + kind + ", " + act + ", 5)", said[kind][act]);
            }
        }
        sentence("THE TRACE: the numbers of BODIES of the latest voice(), as they began (what stands left is worked "
                + "out first), the first 40.");
        int[][] bodies = {{51, 12, 21, 13, 40, 11, 50, 20, 10, 50, 20, 10, 12}, {21, 13, 40, 11, 20, 10, 20, 10, 12},
            {40, 11, 50, 20, 10, 50, 20, 10}, {13, 11, 10, 30, 12}, {13, 60, 11, 10, 12}, {21, 13, 11, 20, 10, 12},
            {10}, {11, 10}, {12}, {30, 12}, {50, 20, 10}, {60, 11, 10}};
        String[] voices = {"4, 3", "3, 3", "4, 1", "2, 3", "5, 3", "1, 3", "0, 0", "0, 1", "0, 2", "2, 2", "4, 0",
            "5, 1"};
        for (int i = 0; i < voices.length; i++) {
            x.does("voice(" + voices[i] + ", 5)").answers("count(12)", bodies[i].length);
            for (int j = 0; j < bodies[i].length; j++) {
                x.answers("trace(" + j + ")", bodies[i][j]);
            }
            x.refuses("trace(" + bodies[i].length + ")", NONE).refuses("trace(-1)", NONE);
        }
    }

    /** OFFICE 1 of WORTH 99: tell(x) is bind(x + 1) ^ rank(x + 1), bind (x + 1 + 99 + 1) * 2. */
    private static int tellOfOffice(int x) {
        long more = (long) x + 1;
        return (int) ((more + 100) * 2) ^ (int) (more - 1);
    }

    private static void termOfSheets() {
        section("Term 11");
        sentence("SHEETS 0 .. 3 are rows of 8, 16, 32 bits, or missing (as at first).");
        Scene x = row(1, 1);
        for (int sheet = 0; sheet < 4; sheet++) {
            x.refuses("put(" + sheet + ", 0, 0)", NONE).answers("sheet(" + sheet + ", 8, 1)", 1)
                    .answers("put(" + sheet + ", 0, 0)", 1).answers("rents(" + sheet + ", 8)", 1)
                    .answers("sheet(" + sheet + ", 16, 1)", 1).answers("rents(" + sheet + ", 16)", 1)
                    .answers("sheet(" + sheet + ", 32, 1)", 1).answers("rents(" + sheet + ", 32)", 1);
        }
        x.refuses("put(4, 0, 0)", BEYOND).refuses("put(-1, 0, 0)", BEYOND);
    }

    private static void newObject() {
        section("Promise 1");
        sentence("No TOWNS, PERSONS, POWERS; DAY 0.");
        Scene x = new Scene();
        for (int what = 0; what <= 15; what++) {
            x.answers("count(" + what + ")", what == 9 ? 1000 : 0);
        }
        String[] beyond = {"road(0, 1, 1)", "far(0, 0)", "person(0, 0, 0, 0)", "die(0)", "go(0, 0)", "about(0, 0)",
            "pay(0, 1)", "men(0, 0)", "power(0, 0, 0)", "as(0, 0)", "held(0, 0)", "give(0, -1)", "lend(0, 0, 0)",
            "copy(0)", "strike(0)", "says(0, -1, -1)", "draw(0, 0, 0)", "press(0, 0)", "send(0, 0)", "open(0)",
            "obey(0)", "letter(0, 0)", "rent(0, 0)", "own(0, -1)", "debt(0, 1, 0)", "owed(0, 0)", "seat(0, true)",
            "seat(0, false)", "promise(0, 0, 0, true)", "breaks(0)", "price(0, 1)", "after(0)", "voice(0, 0, 0)"};
        for (String call : beyond) {
            x.refuses(call, BEYOND);
        }
        String[] none = {"force(0, 0, 0)", "heir(0)", "age()", "trace(0)", "restore()", "rents(0, 8)", "plan(0, -1)",
            "put(0, 0, 0)", "move(0, 0, 0, 0, 0)", "buying(0, 0)", "buying(0, 1)"};
        for (String call : none) {
            x.refuses(call, NONE);
        }
        x.would("law(0, 0)", -10).would("check()", 0).would("guard(0, 0)", 0).would("night(1, 1, 0, 0)", 1)
                .would("cause(0, 0)", 0).would("cause(0, 1)", 0).would("cause(0, 2)", 0).would("cause(0, 3)", -1)
                .would("power(0, -1, 0)", 0).would("town()", 0).would("image()", 1).would("days(1)", 1);
    }

    private static void townsAndRoads() {
        section("Promise 2");
        sentence("A TOWN: its number. FULL.");
        row(9, 1).answers("town()", 9).refuses("town()", FULL).refuses("town()", FULL).answers("own(9, -1)", -1)
                .answers("rent(9, 0)", 0);
        section("Promise 3");
        sentence("BEYOND: there is no such TOWN, both are one, or days. FULL.");
        Scene x = new Scene().times(2, "town()");
        x.beyond("road(#, 1, 1)", -1, 2).beyond("road(0, #, 1)", -1, 2).beyond("road(0, 1, #)", -1, 0, 10)
                .refuses("road(0, 0, 1)", BEYOND).refuses("road(1, 1, 9)", BEYOND).refuses("road(2, 2, 1)", BEYOND)
                .would("road(0, 1, 1)", 1).would("road(1, 0, 9)", 1);
        for (int i = 1; i <= 20; i++) {
            x.answers("road(" + i % 2 + ", " + (i + 1) % 2 + ", 9)", i);
        }
        x.refuses("road(0, 1, 1)", FULL).refuses("road(1, 0, 9)", FULL).refuses("road(0, 0, 1)", BEYOND)
                .refuses("road(0, 2, 1)", BEYOND).refuses("road(-1, 0, 1)", BEYOND).refuses("road(0, 1, 0)", BEYOND)
                .refuses("road(0, 1, 10)", BEYOND);
        section("Promise 4");
        sentence("FAR. BEYOND. NONE: no way leads there.");
        row(2, 9).does("town()").beyond("far(#, 0)", -1, 3).beyond("far(0, #)", -1, 3).refuses("far(3, 3)", BEYOND)
                .refuses("far(0, 2)", NONE).refuses("far(2, 0)", NONE).refuses("far(1, 2)", NONE)
                .answers("far(2, 2)", 0).answers("far(0, 0)", 0).answers("far(0, 1)", 9).does("road(2, 1, 1)")
                .answers("far(0, 2)", 10).answers("far(2, 0)", 10);
    }

    private static void newPersons() {
        section("Promise 5");
        sentence("parents: 100 times (the FATHER's number and 1; 0: none), and the MOTHER's likewise. BEYOND. FULL.");
        Scene x = row(2, 1).does("days(10)", "person(1, -50, 0, 0)", "person(0, -60, 0, 1)");
        x.beyond("person(#, 0, 0, 0)", -1, 2).beyond("person(1, #, 0, 0)", -20001, 11)
                .beyond("person(1, 0, 0, #)", -1, 2).beyond("person(1, 0, #, 0)", -1, -100, -101, 1, 3, 99, 200, 300)
                .refuses("person(1, 0, 101, 0)", BEYOND).refuses("person(1, 0, 103, 0)", BEYOND)
                .refuses("person(1, 0, 202, 0)", BEYOND).refuses("person(1, 0, 302, 0)", BEYOND)
                .refuses("person(1, 0, 2000, 0)", BEYOND).refuses("person(1, 0, 10000, 0)", BEYOND)
                .beyond("person(1, 10, #, 0)", -1, -100, 1, 3, 21, 99, 103, 200, 300, 301, 2100)
                .refuses("person(1, -50, 102, 0)", BEYOND).refuses("person(1, -50, 100, 0)", BEYOND)
                .refuses("person(1, -60, 2, 0)", BEYOND)
                .would("person(0, -20000, 0, 1)", 2).would("person(1, 10, 0, 0)", 2).would("person(1, -49, 100, 0)", 2)
                .would("person(1, -59, 2, 0)", 2).would("person(1, -49, 102, 0)", 2);
        for (int i = 2; i < 19; i++) {
            x.answers("person(1, " + (i - 40) + ", " + (i == 2 ? 102 : 2 + 100 * i) + ", 0)", i);
        }
        x.refuses("person(1, 0, 2000, 0)", BEYOND).would("person(1, 0, 1900, 0)", 19)
                .answers("person(1, 0, 1902, 0)", 19).answers("about(18, 8)", 3);
        x.refuses("person(1, 0, 0, 0)", FULL).refuses("person(0, -20000, 102, 1)", BEYOND)
                .refuses("person(2, 0, 0, 0)", BEYOND).refuses("person(1, 11, 0, 0)", BEYOND)
                .refuses("person(1, 0, 0, 2)", BEYOND).refuses("person(1, 0, 2100, 0)", BEYOND)
                .refuses("person(1, -50, 100, 0)", BEYOND).refuses("person(0, 10, 2002, 1)", FULL);
    }

    private static void dying() {
        section("Promise 6");
        sentence("BEYOND. STATE: it is dead.");
        court(2).beyond("die(#)", -1, 2).answers("die(1)", 0).refuses("die(1)", STATE).answers("die(0)", 0)
                .refuses("die(0)", STATE);
        sentence("A PERSON dies: what COIN it had (THE CHEST has that then); its MEN go, POWERS that it held have no "
                + "HOLDER (and are LENT no more), what was LENT to it is with the HOLDER.");
        court(3).does("pay(1, 1000)", "men(1, 99)", "power(1, 1, 0)", "power(2, 1, 0)", "power(2, 2, 0)",
                "power(2, 2, 0)", "lend(1, 2, 9)", "lend(2, 1, 9)", "lend(3, 0, 9)").answers("die(1)", 1000)
                .answers("count(9)", 1000).answers("about(1, 1)", 0).answers("about(1, 2)", 0)
                .answers("about(1, 5)", 0).answers("held(0, 1)", -1).answers("held(1, 1)", -1)
                .answers("held(1, 2)", -1).answers("held(1, 4)", -1).answers("held(2, 1)", 2)
                .answers("held(2, 2)", 2).answers("held(2, 4)", -1).answers("held(3, 2)", 0)
                .answers("held(3, 4)", 9).answers("count(14)", 0);
        court(1).answers("die(0)", 0).answers("count(9)", 1000).answers("about(0, 6)", 1);
        court(4).does("power(2, 0, 0)", "power(2, 3, 0)", "power(2, 3, 0)", "lend(0, 3, 9)", "lend(1, 0, 9)",
                "lend(2, 1, 9)", "die(2)").answers("held(0, 2)", 3).answers("held(1, 2)", 0).answers("held(2, 2)", 1)
                .does("die(1)").answers("held(0, 2)", 3).answers("held(1, 2)", 0).answers("held(2, 2)", 3);
    }

    private static void going() {
        section("Promise 7");
        sentence("BEYOND. STATE: it is dead, or on the road. NONE: no way leads there.");
        row(3, 2).does("town()", "person(1, 0, 0, 0)", "person(1, 0, 0, 0)", "person(1, 0, 0, 3)")
                .beyond("go(#, 0)", -1, 3).beyond("go(0, #)", -1, 4).refuses("go(0, 3)", NONE)
                .refuses("go(2, 0)", NONE).answers("go(2, 3)", 0).would("go(0, 2)", 4).would("go(0, 0)", 0)
                .does("go(0, 1)", "die(1)")
                .refuses("go(0, 0)", STATE).refuses("go(0, 1)", STATE).refuses("go(0, 3)", STATE)
                .refuses("go(0, 4)", BEYOND).refuses("go(1, 0)", STATE).refuses("go(1, 3)", STATE)
                .refuses("go(1, -1)", BEYOND).does("days(1)").refuses("go(0, 0)", STATE).does("days(1)")
                .refuses("go(0, 3)", NONE).answers("go(0, 0)", 4);
    }

    private static void aboutPersons() {
        section("Promise 8");
        sentence("0 TOWN (-1: on the road), 1 COIN, 2 MEN, 3 AGE, 4 KNOWN, 5 how many POWERS it holds, 6 1 it is "
                + "dead, else 0, 7 1 it is SEATED, else 0, 8 steps to THE CHILD (99), 9 its PRICE. BEYOND.");
        Scene x = row(10, 1).does("person(1, -9000, 0, 0)", "person(0, -8640, 0, 9)").times(20, "power(1, 1, 0)")
                .does("pay(1, 7)", "men(1, 8)", "seat(1, true)", "price(1, 999)", "days(10)");
        x.beyond("about(#, 0)", -1, 2).beyond("about(0, #)", -1, 10).refuses("about(2, 10)", BEYOND);
        int[] want = {9, 7, 8, 24, 1, 20, 0, 1, 99, 999};
        for (int what = 0; what < 10; what++) {
            x.answers("about(1, " + what + ")", want[what]);
        }
        x.does("go(1, 0)").answers("about(1, 0)", -1).answers("about(1, 4)", 1).does("die(1)");
        int[] dead = {-1, 0, 0, 24, 1, 0, 1, 0, 99, 999};
        for (int what = 0; what < 10; what++) {
            x.answers("about(1, " + what + ")", dead[what]);
        }
        x.beyond("about(1, #)", -1, 10).answers("about(0, 8)", 0).answers("about(0, 9)", 1);
    }

    private static void payingAndMen() {
        section("Promise 9");
        sentence("THE CHEST pays n (1 .. 9999) to a PERSON: what THE CHEST has then. BEYOND. STATE: it is dead. NONE: "
                + "there is less.");
        court(2).does("debt(99999, 1, 0)").beyond("pay(0, #)", -1, 0, 10000).beyond("pay(#, 1)", -1, 2)
                .would("pay(0, 1)", 100998).would("pay(0, 9999)", 91000);
        court(2).does("die(1)").refuses("pay(0, 1001)", NONE).refuses("pay(0, 9999)", NONE)
                .refuses("pay(0, 10000)", BEYOND).refuses("pay(1, 1)", STATE).refuses("pay(1, 1001)", STATE)
                .refuses("pay(1, 0)", BEYOND).refuses("pay(1, 10000)", BEYOND).answers("pay(0, 1000)", 0)
                .refuses("pay(0, 1)", NONE).refuses("pay(0, 0)", BEYOND).refuses("pay(1, 1)", STATE);
        section("Promise 10");
        sentence("BEYOND: n isn't -99 .. 99, or they would be below 0 or above 999. STATE: it is dead (ahead of that "
                + "of MEN).");
        Scene x = court(3).does("die(1)").beyond("men(0, #)", -100, 100).beyond("men(#, 0)", -1, 3)
                .refuses("men(0, -1)", BEYOND).refuses("men(0, -99)", BEYOND).would("men(0, 0)", 0)
                .answers("men(0, 98)", 98).refuses("men(0, -99)", BEYOND).would("men(0, -98)", 0)
                .answers("men(0, 1)", 99).would("men(0, -99)", 0).refuses("men(0, -100)", BEYOND);
        for (int i = 2; i <= 10; i++) {
            x.answers("men(0, 99)", 99 * i);
        }
        x.refuses("men(0, 10)", BEYOND).refuses("men(0, 99)", BEYOND).answers("men(0, 9)", 999)
                .refuses("men(0, 1)", BEYOND).would("men(0, 0)", 999).would("men(0, -99)", 900)
                .refuses("men(1, 0)", STATE).refuses("men(1, -1)", STATE).refuses("men(1, 99)", STATE)
                .refuses("men(1, -99)", STATE).refuses("men(1, 100)", BEYOND).refuses("men(1, -100)", BEYOND);
    }

    private static void powersOfKinds() {
        section("Promise 11");
        sentence("holder -1: none. BEYOND: kind, no such PERSON, it is dead, worth. FULL.");
        Scene x = court(2).does("die(1)").beyond("power(#, 0, 0)", -1, 6).beyond("power(0, #, 0)", -2, 1, 2)
                .beyond("power(0, 0, #)", -1, 100).would("power(0, -1, 0)", 0).would("power(5, 0, 99)", 0);
        for (int i = 0; i < 20; i++) {
            x.answers("power(" + i % 6 + ", " + (i % 2 - 1) + ", " + i + ")", i);
        }
        x.refuses("power(0, 0, 0)", FULL).refuses("power(5, -1, 99)", FULL).refuses("power(6, 0, 0)", BEYOND)
                .refuses("power(0, 1, 0)", BEYOND).refuses("power(0, -2, 0)", BEYOND)
                .refuses("power(0, 0, 100)", BEYOND);
        section("Promise 12");
        sentence("BEYOND: there is no such one, or kind. KIND: it isn't of that kind, nor of one under it.");
        boolean[][] is = {{true, false, false, false, false, false}, {true, true, false, false, false, false},
            {true, false, true, false, false, false}, {true, true, false, true, false, false},
            {true, true, false, true, true, false}, {true, false, false, false, false, true}};
        Scene y = court(1);
        for (int i = 0; i < 6; i++) {
            y.does("power(" + i + ", 0, " + (i == 0 ? 0 : 94 + i) + ")");
        }
        for (int i = 0; i < 6; i++) {
            for (int kind = 0; kind < 6; kind++) {
                String call = "as(" + i + ", " + kind + ")";
                if (is[i][kind]) {
                    y.answers(call, i == 0 ? 0 : 94 + i);
                } else {
                    y.refuses(call, KIND);
                }
            }
        }
        y.beyond("as(#, 0)", -1, 6).beyond("as(0, #)", -1, 6).refuses("as(6, 6)", BEYOND);
        section("Promise 13");
        sentence("Of a POWER: 0 KIND, 1 its HOLDER (-1), 2 WHO HAS it (-1), 3 its MARK (of others than SEALS -1), 4 "
                + "the day till which it is LENT (-1). BEYOND.");
        y.beyond("held(#, 0)", -1, 6).beyond("held(0, #)", -1, 5).refuses("held(6, 5)", BEYOND);
        for (int i = 0; i < 6; i++) {
            y.answers("held(" + i + ", 0)", i).answers("held(" + i + ", 3)", i == 2 ? 2 : -1)
                    .answers("held(" + i + ", 4)", -1).answers("held(" + i + ", 1)", 0);
        }
        court(2).does("power(2, -1, 0)").answers("held(0, 1)", -1).answers("held(0, 2)", -1).answers("held(0, 3)", 0)
                .does("give(0, 1)", "lend(0, 0, 0)").answers("held(0, 1)", 1).answers("held(0, 2)", 0)
                .answers("held(0, 4)", 0);
    }

    private static void givingAndLending() {
        section("Promise 14");
        sentence("A PERSON (-1: nobody) is the HOLDER of a POWER: who was (-1). BEYOND: also one that is dead. STATE: "
                + "it is LENT.");
        court(4).does("power(2, 0, 0)", "power(1, -1, 0)", "die(3)").beyond("give(#, 0)", -1, 2)
                .beyond("give(0, #)", -2, 3, 4).answers("give(1, 2)", -1).answers("give(1, -1)", 2)
                .answers("give(1, -1)", -1).answers("give(0, 0)", 0).does("days(5)", "lend(0, 1, 6)")
                .refuses("give(0, 0)", STATE).refuses("give(0, 1)", STATE).refuses("give(0, 2)", STATE)
                .refuses("give(0, -1)", STATE).refuses("give(0, 3)", BEYOND).refuses("give(0, -2)", BEYOND)
                .does("days(1)").refuses("give(0, 2)", STATE).does("days(1)").answers("give(0, 2)", 0)
                .answers("held(0, 2)", 2);
        section("Promise 15");
        sentence("BEYOND: also one that is dead, a day ahead of the DAY. KIND: it is no SEAL. STATE: it has no "
                + "HOLDER, is LENT, or that is its HOLDER.");
        Scene x = court(4).does("die(3)", "days(5)");
        for (int kind = 0; kind < 6; kind++) {
            x.does("power(" + kind + ", 0, 0)");
        }
        x.does("power(2, -1, 0)", "power(1, -1, 0)").beyond("lend(#, 1, 9)", -1, 8)
                .beyond("lend(2, #, 9)", -1, 3, 4).beyond("lend(2, 1, #)", -1, 4, 2001)
                .would("lend(2, 1, 5)", 1).would("lend(2, 1, 2000)", 1);
        for (int kind : new int[] {0, 1, 3, 4, 5}) {
            x.refuses("lend(" + kind + ", 1, 9)", KIND);
        }
        x.refuses("lend(1, 0, 9)", KIND).refuses("lend(7, 1, 9)", KIND).refuses("lend(1, 3, 9)", BEYOND)
                .refuses("lend(1, 1, 4)", BEYOND).refuses("lend(1, 1, 2001)", BEYOND)
                .refuses("lend(6, 1, 9)", STATE).refuses("lend(6, 3, 9)", BEYOND).refuses("lend(2, 0, 9)", STATE)
                .refuses("lend(2, 0, 4)", BEYOND).answers("lend(2, 1, 6)", 1).refuses("lend(2, 1, 6)", STATE)
                .refuses("lend(2, 2, 9)", STATE).refuses("lend(2, 0, 9)", STATE).refuses("lend(2, 3, 9)", BEYOND)
                .refuses("lend(2, 2, 4)", BEYOND).does("days(1)").refuses("lend(2, 2, 9)", STATE).does("days(1)")
                .answers("lend(2, 2, 7)", 1);
        court(2).does("power(2, 0, 0)").times(5, "days(400)").refuses("lend(0, 1, 1999)", BEYOND)
                .answers("lend(0, 1, 2000)", 1);
        section("Promise 16");
        sentence("A COPY of a SEAL (its WORTH is 0): its number. BEYOND. KIND. STATE: nobody has it. FULL.");
        Scene y = court(1);
        for (int kind = 0; kind < 6; kind++) {
            y.does("power(" + kind + ", 0, 99)");
        }
        y.does("power(2, -1, 99)", "power(1, -1, 99)").beyond("copy(#)", -1, 8);
        for (int kind : new int[] {0, 1, 3, 4, 5, 7}) {
            y.refuses("copy(" + kind + ")", KIND);
        }
        y.refuses("copy(6)", STATE);
        for (int i = 8; i < 20; i++) {
            y.answers("copy(" + (i == 8 ? 2 : i - 1) + ")", i).answers("as(" + i + ", 2)", 0)
                    .answers("held(" + i + ", 3)", 2);
        }
        y.refuses("copy(2)", FULL).refuses("copy(19)", FULL).refuses("copy(1)", KIND).refuses("copy(7)", KIND)
                .refuses("copy(6)", STATE).refuses("copy(20)", BEYOND).refuses("copy(-1)", BEYOND);
    }

    private static void tapeAndLaws() {
        section("Promise 17");
        sentence("The n lowest bytes (1 .. 8) of a word, the lowest first, come to THE TAPE: how many there are. "
                + "BEYOND. FULL.");
        new Scene().beyond("feed(97, #)", -1, 0, 9).would("feed(97, 1)", 1).would("feed(0, 8)", 8)
                .would("feed(-1, 8)", 8).times(6, "feed(0, 8)").does("feed(0, 5)").refuses("feed(0, 8)", FULL)
                .would("feed(0, 7)", 60).does("feed(0, 6)").refuses("feed(0, 2)", FULL).refuses("feed(0, 9)", BEYOND)
                .refuses("feed(0, 0)", BEYOND).answers("feed(0, 1)", 60).refuses("feed(0, 1)", FULL)
                .refuses("feed(0, 8)", FULL).refuses("feed(0, 9)", BEYOND).refuses("feed(0, 0)", BEYOND)
                .refuses("feed(0, -2147483648)", BEYOND);
        means(new Scene(), "12+34-56", "-1, -1", -10);
        new Scene().answers("feed(" + (0x7878787878787800L + '7') + ", 1)", 1).answers("law(0, 0)", 0)
                .answers("says(0, -1, -1)", 7).answers("feed(" + ((long) '5' << 56 | 0x2b312b312b312bL) + ", 8)", 8)
                .answers("law(0, 0)", -10).answers("feed(" + ((long) '5' << 56 | 0x2b342b332b3231L) + ", 8)", 8)
                .answers("law(0, 0)", 1).answers("says(1, -1, -1)", 12 + 3 + 4 + 5);
        section("Promise 18");
        sentence("for days from one on (0 .. 2000): its number; -10 less its FAULT. BEYOND, FULL (THE TAPE stays in "
                + "both).");
        Scene x = new Scene().feeds("d+1").beyond("law(#, 0)", -1, 5).beyond("law(0, #)", -1, 2001)
                .answers("count(10)", 3).would("law(0, 0)", 0).would("law(4, 2000)", 0).answers("law(0, 2000)", 0)
                .answers("count(10)", 0).answers("law(0, 0)", -10).answers("count(4)", 1).feeds("d+")
                .refuses("law(5, 0)", BEYOND).refuses("law(0, 2001)", BEYOND).answers("law(0, 0)", -12)
                .answers("count(10)", 0).answers("count(4)", 1);
        for (int i = 1; i < 12; i++) {
            x.feeds("d").answers("law(0, 0)", i);
        }
        x.refuses("law(0, 0)", FULL).refuses("law(5, 0)", BEYOND).feeds("d+").refuses("law(0, 0)", FULL)
                .refuses("law(4, 2000)", FULL).refuses("law(-1, 0)", BEYOND).refuses("law(0, -1)", BEYOND)
                .refuses("law(0, 2001)", BEYOND).answers("count(10)", 2).feeds("d").refuses("law(0, 0)", FULL)
                .answers("count(10)", 3);
        section("Promise 19");
        sentence("A LAW is STRUCK on the DAY: 1. BEYOND. STATE: it is.");
        new Scene().law(1, 0, "1").law(1, 0, "1").does("days(3)").beyond("strike(#)", -1, 2).answers("strike(1)", 1)
                .refuses("strike(1)", STATE).answers("force(1, 5, 2)", 1).answers("force(1, 5, 3)", 0)
                .does("days(1)").refuses("strike(1)", STATE).answers("force(1, 5, 3)", 0).answers("strike(0)", 1);
        section("Promise 20");
        sentence("The LAW of a USE in force on a day (0 .. 2000) AS KNOWN on day k (-1 .. 2000). BEYOND. NONE: there "
                + "is none.");
        new Scene().beyond("force(0, #, 0)", -1, 2001).law(4, 0, "1").law(0, 2000, "1")
                .beyond("force(#, 0, 0)", -1, 5).beyond("force(4, #, 0)", -1, 2001)
                .beyond("force(4, 0, #)", -2, 2001).answers("force(4, 0, 0)", 0).answers("force(4, 2000, 2000)", 0)
                .answers("force(0, 2000, 0)", 1).refuses("force(0, 1999, 0)", NONE).refuses("force(4, 0, -1)", NONE)
                .refuses("force(1, 0, 0)", NONE).refuses("force(2, 2000, 2000)", NONE);
        section("Promise 21");
        sentence("What a LAW comes to of a PERSON (-1: without) and a LETTER (-1: without) on the DAY. BEYOND.");
        court(2).law(1, 0, "a+w+y+d").does("draw(0, 0, 999)", "die(1)", "days(400)").beyond("says(#, 0, 0)", -1, 1)
                .beyond("says(0, #, 0)", -2, 2).beyond("says(0, 0, #)", -2, 1).refuses("says(1, 2, 1)", BEYOND)
                .answers("says(0, 0, 0)", 26 + 999 + 400).answers("says(0, 1, 0)", 26 + 999 + 400)
                .answers("says(0, -1, 0)", 1399).answers("says(0, 1, -1)", 426).answers("says(0, -1, -1)", 400)
                .does("draw(0, 3, 7)").answers("says(0, 0, 1)", 26 + 7 + 400).answers("says(0, -1, 1)", 407)
                .does("strike(0)").answers("says(0, -1, -1)", 400).times(4, "days(400)")
                .answers("says(0, -1, -1)", 2000);
    }

    private static void drawingAndPressing() {
        section("Promise 22");
        sentence("BEYOND. STATE: the PERSON is dead, or on the road. FULL.");
        Scene x = row(2, 1).times(3, "person(1, 0, 0, 0)").does("die(1)", "go(2, 1)")
                .beyond("draw(#, 0, 0)", -1, 3).beyond("draw(0, #, 0)", -1, 5).beyond("draw(0, 0, #)", -1, 1000)
                .would("draw(0, 0, 0)", 0).would("draw(0, 4, 999)", 0).refuses("draw(1, 0, 0)", STATE)
                .refuses("draw(2, 0, 0)", STATE).refuses("draw(1, 5, 0)", BEYOND).refuses("draw(2, 0, 1000)", BEYOND)
                .refuses("draw(2, -1, 0)", BEYOND);
        for (int i = 0; i < 40; i++) {
            x.answers("draw(0, " + i % 5 + ", 999)", i);
        }
        x.refuses("draw(0, 0, 0)", FULL).refuses("draw(0, 4, 999)", FULL).refuses("draw(1, 0, 0)", STATE)
                .refuses("draw(2, 0, 0)", STATE).refuses("draw(3, 0, 0)", BEYOND).refuses("draw(0, 5, 0)", BEYOND)
                .refuses("draw(0, 0, 1000)", BEYOND).refuses("draw(0, 0, -1)", BEYOND);
        section("Promise 23");
        sentence("BEYOND. KIND: that is no SEAL. STATE: it was SENT, nobody has the SEAL, or who has it isn't in that "
                + "TOWN.");
        Scene y = row(2, 1).does("person(1, 0, 0, 0)", "person(1, 0, 0, 1)", "person(1, 0, 0, 0)");
        for (int kind = 0; kind < 6; kind++) {
            y.does("power(" + kind + ", 0, 0)");
        }
        y.does("power(2, -1, 0)", "power(2, 1, 0)", "power(2, 2, 0)", "power(1, -1, 0)", "power(2, 0, 0)",
                "draw(0, 0, 0)", "draw(0, 0, 0)", "lend(10, 1, 9)", "go(2, 1)")
                .beyond("press(#, 2)", -1, 2).beyond("press(0, #)", -1, 11);
        for (int power : new int[] {0, 1, 3, 4, 5, 9}) {
            y.refuses("press(0, " + power + ")", KIND);
        }
        y.refuses("press(2, 0)", BEYOND).refuses("press(0, 6)", STATE).refuses("press(0, 7)", STATE)
                .refuses("press(0, 8)", STATE).refuses("press(0, 10)", STATE).answers("press(0, 2)", 1)
                .does("send(1, 0)").refuses("press(1, 2)", STATE).refuses("press(1, 1)", KIND)
                .refuses("press(1, 9)", KIND).refuses("press(1, 11)", BEYOND).refuses("press(1, -1)", BEYOND)
                .answers("press(0, 2)", 1).does("open(1)").refuses("press(1, 2)", STATE);
        // To whom it is LENT may press, where its HOLDER may not; and its HOLDER may once more when that day is past.
        row(2, 1).does("person(1, 0, 0, 0)", "person(1, 0, 0, 1)", "power(2, 1, 0)", "draw(0, 0, 0)")
                .refuses("press(0, 0)", STATE).does("lend(0, 0, 0)").answers("press(0, 0)", 1).does("days(1)")
                .refuses("press(0, 0)", STATE).does("go(1, 0)").refuses("press(0, 0)", STATE).does("days(1)")
                .answers("press(0, 0)", 1);
    }

    private static void sendingAndOpening() {
        section("Promise 24");
        sentence("BEYOND. STATE: it was SENT, or the PERSON is dead, or on the road. NONE: no way leads there.");
        row(2, 9).does("town()", "person(1, 0, 0, 0)", "person(1, 0, 0, 1)", "person(1, 0, 0, 2)",
                "person(1, 0, 0, 0)", "person(1, 0, 0, 2)", "person(1, 0, 0, 1)", "draw(0, 0, 0)", "draw(0, 0, 0)",
                "draw(2, 0, 0)", "die(3)", "die(4)", "go(5, 0)")
                .beyond("send(#, 0)", -1, 3).beyond("send(0, #)", -1, 6).refuses("send(0, 2)", NONE)
                .refuses("send(2, 0)", NONE).refuses("send(0, 3)", STATE).refuses("send(0, 4)", STATE)
                .refuses("send(0, 5)", STATE).refuses("send(2, 5)", STATE).would("send(0, 0)", 0)
                .would("send(2, 2)", 0).answers("send(0, 1)", 9).refuses("send(0, 1)", STATE)
                .refuses("send(0, 2)", STATE).refuses("send(0, 6)", BEYOND).refuses("send(0, 3)", STATE)
                .does("days(9)").refuses("send(0, 1)", STATE).answers("send(1, 5)", 9)
                .times(4, "days(400)").does("days(387)", "draw(0, 0, 0)").answers("send(3, 1)", 2005)
                .answers("count(15)", 1);
        section("Promise 25");
        sentence("1 it is GOOD, else 0. BEYOND. STATE: it wasn't SENT, isn't there yet, was OPENED, or the PERSON is "
                + "dead, or isn't in that TOWN.");
        row(2, 3).does("person(1, 0, 0, 0)", "person(1, 0, 0, 1)").times(3, "draw(0, 4, 0)").beyond("open(#)", -1, 3)
                .refuses("open(0)", STATE).does("send(0, 1)", "send(1, 1)").refuses("open(0)", STATE).does("days(2)")
                .refuses("open(0)", STATE).does("days(1)").answers("open(0)", 1).refuses("open(0)", STATE)
                .refuses("open(2)", STATE).does("go(1, 0)").refuses("open(1)", STATE).does("days(3)")
                .refuses("open(1)", STATE).does("go(1, 1)", "days(3)").would("open(1)", 1).does("die(1)")
                .refuses("open(1)", STATE).refuses("open(0)", STATE);
        court(1).does("draw(0, 4, 0)", "send(0, 0)").answers("open(0)", 1).refuses("open(0)", STATE)
                .answers("letter(0, 6)", 0);
        for (String text : new String[] {"0", "1", "0-1", "2", "w", "y", "o", "c", "s", "d", "t", "9999"}) {
            boolean good = "0yct".indexOf(text) < 0 || text.length() > 1;
            court(1).does("days(1)").law(1, 0, text).does("draw(0, 4, 7)", "send(0, 0)")
                    .answers("open(0)", good ? 1 : 0).answers("letter(0, 7)", good ? 1 : 0);
        }
    }

    /** A scene's LETTER of PERSON 0 to itself, opened; GOOD or not by `y`, a LAW, if it stands. */
    private static Scene opened(Scene x, int letter, int sort, int worth) {
        return x.does("draw(0, " + sort + ", " + worth + ")", "send(" + letter + ", 0)", "open(" + letter + ")");
    }

    private static void obeying() {
        section("Promise 26");
        sentence("BEYOND. STATE: it wasn't OPENED, was OBEYED, or the PERSON is dead. KIND: it isn't GOOD.");
        Scene x = court(1).beyond("obey(#)", -1, 0).does("draw(0, 4, 0)").beyond("obey(#)", -1, 1)
                .refuses("obey(0)", STATE).does("send(0, 0)").refuses("obey(0)", STATE).does("open(0)")
                .answers("obey(0)", 0).refuses("obey(0)", STATE);
        opened(x, 1, 4, 0).law(1, 0, "0");
        opened(x, 2, 4, 0).refuses("obey(2)", KIND).refuses("obey(2)", KIND).would("obey(1)", 0);
        opened(x, 3, 2, 9).refuses("obey(3)", KIND);
        opened(x, 4, 3, 9).refuses("obey(4)", KIND);
        opened(x, 5, 0, 999).does("pay(0, 9)").refuses("obey(5)", KIND);
        x.does("die(0)").refuses("obey(1)", STATE).refuses("obey(2)", STATE).refuses("obey(3)", STATE)
                .refuses("obey(6)", BEYOND);
        sentence("NONE: SORT 0 THE CHEST has less; 1 it is on the road, or no way leads there; 2, 3 there is no such "
                + "POWER, LAW, or that is STRUCK.");
        opened(court(2).does("pay(1, 600)"), 0, 0, 400).would("obey(0)", 0).does("pay(1, 1)").refuses("obey(0)", NONE)
                .answers("letter(0, 8)", 0).does("die(1)").answers("obey(0)", 600).answers("letter(0, 8)", 1);
        opened(court(1).does("pay(0, 1000)"), 0, 0, 0).answers("obey(0)", 0).answers("letter(0, 8)", 1);
        Scene y = row(2, 5).does("town()", "person(1, 0, 0, 0)");
        opened(y, 0, 1, 2).refuses("obey(0)", NONE);
        opened(y, 1, 1, 1).does("go(0, 1)").refuses("obey(1)", NONE).refuses("obey(0)", NONE).does("days(4)")
                .refuses("obey(1)", NONE).does("days(1)").would("obey(1)", 5).does("road(2, 1, 9)")
                .answers("obey(0)", 14).answers("letter(0, 8)", 1);
        Scene z = court(1).does("power(1, -1, 0)");
        opened(z, 0, 2, 1).refuses("obey(0)", NONE).answers("letter(0, 8)", 0).does("power(1, 0, 0)")
                .answers("obey(0)", 0);
        opened(z, 1, 2, 0).answers("obey(1)", -1).answers("held(0, 1)", 0);
        opened(z, 2, 2, 999).refuses("obey(2)", NONE);
        Scene law = court(1);
        opened(law, 0, 3, 0).refuses("obey(0)", NONE).law(2, 0, "1").does("strike(0)").refuses("obey(0)", NONE)
                .answers("letter(0, 8)", 0).law(2, 0, "1");
        opened(law, 1, 3, 1).does("days(2)").answers("obey(1)", 1).refuses("strike(1)", STATE)
                .answers("force(2, 2, 1)", 1).refuses("force(2, 2, 2)", NONE);
        opened(law, 2, 3, 999).refuses("obey(2)", NONE);
        sentence("4 how many stood");
        Scene seated = court(2).does("seat(0, true)", "seat(1, true)", "promise(0, 0, 0, true)",
                "promise(0, 1, 1, true)", "promise(0, 2, 9, true)", "promise(0, 2, 9, false)", "promise(1, 0, 9, true)",
                "promise(0, 3, 9, true)", "breaks(5)", "days(1)");
        opened(seated, 0, 4, 0).answers("obey(0)", 2).refuses("breaks(1)", STATE).refuses("breaks(3)", STATE)
                .answers("cause(1, 3)", 1).answers("cause(2, 3)", -1).answers("cause(0, 3)", -1).would("breaks(4)", 1);
        opened(seated, 1, 4, 0).answers("obey(1)", 0);
        opened(court(1).does("seat(0, true)", "promise(0, 0, 9, true)"), 0, 4, 0).answers("obey(0)", 1)
                .answers("cause(0, 3)", 0).refuses("breaks(0)", STATE);
    }

    private static void aboutLetters() {
        section("Promise 27");
        sentence("4 the PERSON to which it was SENT (-1), 5 the day on which it is there (-1), 6 the DAY on which it "
                + "was OPENED (-1), 7 1 it is GOOD, 0 it isn't (-1 ahead), 8 1 it was OBEYED, else 0, 9 COULD, as "
                + "bits. BEYOND.");
        Scene x = row(2, 2).does("person(1, 0, 0, 0)", "person(1, 0, 0, 1)", "power(1, 0, 0)", "power(2, 0, 0)",
                "draw(0, 4, 999)").beyond("letter(#, 0)", -1, 1).beyond("letter(0, #)", -1, 10)
                .refuses("letter(1, 10)", BEYOND);
        letterIs(x, 0, 4, 999, 0, -1, -1, -1, -1, 0, 1);
        letterIs(x.does("press(0, 1)"), 0, 4, 999, 2, -1, -1, -1, -1, 0, 1);
        letterIs(x.does("send(0, 1)"), 0, 4, 999, 2, 1, 2, -1, -1, 0, 1);
        letterIs(x.does("days(3)", "open(0)"), 0, 4, 999, 2, 1, 2, 3, 1, 0, 1);
        letterIs(x.does("days(1)", "obey(0)"), 0, 4, 999, 2, 1, 2, 3, 1, 1, 1);
        letterIs(court(3).does("draw(2, 1, 5)", "send(0, 1)"), 2, 1, 5, 0, 1, 0, -1, -1, 0, 7);
        letterIs(court(1).does("draw(0, 0, 0)", "send(0, 0)").law(1, 0, "0").does("open(0)"), 0, 0, 0, 0, 0, 0, 0, 0,
                0, 1);
    }

    private static void letterIs(Scene x, int... want) {
        for (int what = 0; what < want.length; what++) {
            x.answers("letter(0, " + what + ")", want[what]);
        }
    }

    private static void daysAndRents() {
        section("Promise 28");
        sentence("n days (1 .. 400) end, one by one: the DAY. BEYOND: n, or the DAY would be above 2000.");
        new Scene().beyond("days(#)", -1, 0, 401).would("days(1)", 1).would("days(400)", 400).times(4, "days(400)")
                .would("days(400)", 2000).refuses("days(401)", BEYOND).answers("days(1)", 1601)
                .refuses("days(400)", BEYOND).would("days(399)", 2000).answers("days(398)", 1999)
                .refuses("days(2)", BEYOND).answers("days(1)", 2000).beyond("days(#)", 0, 1, 400, 401);
        row(2, 3).does("person(1, 0, 0, 0)", "power(2, 0, 0)", "person(1, 0, 0, 0)", "lend(0, 1, 200)", "rent(0, 2)",
                "go(0, 1)", "days(400)").answers("count(9)", 1008).answers("about(0, 0)", 1).answers("held(0, 2)", 0);
        section("Promise 29");
        sentence("RENT of a TOWN: what it was. BEYOND.");
        row(2, 1).beyond("rent(#, 0)", -1, 2).beyond("rent(0, #)", -1, 1000).answers("rent(1, 999)", 0)
                .answers("rent(1, 0)", 999).answers("rent(1, 1)", 0).answers("rent(0, 0)", 0);
        section("Promise 30");
        sentence("OWNER of a TOWN (-1: THE CHEST): who was. BEYOND: also one that is dead. STATE: it is FORFEIT.");
        court(3).does("town()", "die(2)").beyond("own(#, 0)", -1, 2).beyond("own(0, #)", -2, 2, 3)
                .answers("own(0, 1)", -1).answers("own(0, 0)", 1).answers("own(0, -1)", 0).answers("own(0, -1)", -1)
                .answers("own(1, 1)", -1).does("die(1)").answers("own(1, 0)", 1);
        indebted(100, 10, 0).does("town()", "person(1, 0, 0, 0)", "die(2)", "days(179)").would("own(0, 1)", -1)
                .does("days(1)").refuses("own(0, 1)", STATE).refuses("own(0, -1)", STATE).refuses("own(0, 2)", BEYOND)
                .refuses("own(0, -2)", BEYOND).refuses("own(0, 3)", BEYOND).answers("own(1, 1)", -1);
    }

    private static void rentsOfSheets() {
        section("Promise 31");
        sentence("BEYOND: no such SHEET, bits. NONE: the SHEET is missing. KIND: it is of other bits. STATE: it has "
                + "more numbers than there are TOWNS. BEYOND: a number isn't -1 .. 999.");
        Scene x = row(2, 1).beyond("rents(#, 8)", -1, 4)
                .beyond("rents(0, #)", -8, -1, 1, 4, 7, 9, 15, 17, 24, 31, 33, 64).refuses("rents(4, 9)", BEYOND)
                .refuses("rents(0, 8)", NONE).refuses("rents(3, 32)", NONE);
        for (int bits = 8; bits <= 32; bits *= 2) {
            x.does("sheet(0, " + bits + ", 2)");
            for (int other = 8; other <= 32; other *= 2) {
                if (other != bits) {
                    x.refuses("rents(0, " + other + ")", KIND);
                }
            }
            x.refuses("rents(0, 12)", BEYOND).would("rents(0, " + bits + ")", 2);
        }
        x.does("sheet(0, 16, 3)").refuses("rents(0, 16)", STATE).refuses("rents(0, 8)", KIND).does("put(0, 0, -2)")
                .refuses("rents(0, 16)", STATE).refuses("rents(0, 32)", KIND).refuses("rents(0, 64)", BEYOND)
                .does("sheet(0, 16, 24)").refuses("rents(0, 16)", STATE).does("sheet(0, 16, 2)", "put(0, 0, 5)");
        for (int number : new int[] {-2, -1000, -32768, 1000, 1001, 32767}) {
            x.does("put(0, 1, " + number + ")").refuses("rents(0, 16)", BEYOND).refuses("rents(0, 8)", KIND);
        }
        x.does("put(0, 1, 999)").answers("rents(0, 16)", 2).answers("rent(0, 8)", 5).answers("rent(1, 7)", 999)
                .does("put(0, 0, 0)", "put(0, 1, -1)").answers("rents(0, 16)", 1).answers("rent(0, 8)", 0)
                .answers("rent(1, 7)", 7).does("put(0, 0, -1)").answers("rents(0, 16)", 0).answers("rent(0, 8)", 8)
                .does("sheet(0, 16, 1)", "put(0, 0, 3)").answers("rents(0, 16)", 1).answers("rent(0, 3)", 3)
                .answers("rent(1, 7)", 7).does("sheet(0, 16, 0)").answers("rents(0, 16)", 0);
        x.does("sheet(1, 32, 2)", "put(1, 0, 2147483647)").refuses("rents(1, 32)", BEYOND)
                .does("put(1, 0, -2147483648)").refuses("rents(1, 32)", BEYOND).does("put(1, 0, 65536)")
                .refuses("rents(1, 32)", BEYOND);
        new Scene().does("sheet(0, 8, 0)").answers("rents(0, 8)", 0).does("sheet(0, 8, 1)")
                .refuses("rents(0, 8)", STATE);
        Scene ten = row(10, 1).does("sheet(2, 8, 10)", "put(2, 9, 127)").answers("rents(2, 8)", 10)
                .answers("rent(9, 0)", 127).does("sheet(2, 8, 11)").refuses("rents(2, 8)", STATE);
        ten.does("sheet(2, 8, 1)", "put(2, 0, 128)").refuses("rents(2, 8)", BEYOND);
    }

    private static void debts() {
        section("Promise 32");
        sentence("BEYOND: owed, terms (10000 times RATE, and DUE), pledge. FULL. (THE CHEST has OWED more.)");
        Scene x = row(2, 1).beyond("debt(#, 1, 0)", -1, 100000)
                .beyond("debt(0, #, 0)", -1, -9999, -10000, -10001, 0, 10000, 990000, 1000000, 1000001, 1009999)
                .beyond("debt(0, 1, #)", -1, 2).would("debt(0, 1, 0)", 0).would("debt(0, 9999, 1)", 0)
                .would("debt(0, 10001, 0)", 0).would("debt(0, 19999, 0)", 0).would("debt(99999, 999999, 1)", 0)
                .would("debt(0, 990001, 0)", 0).answers("debt(99999, 999999, 1)", 0).answers("count(9)", 100999)
                .answers("debt(0, 1, 1)", 1).answers("count(9)", 100999);
        for (int i = 2; i < 6; i++) {
            x.answers("debt(1, 1, 0)", i);
        }
        x.answers("count(9)", 101003).refuses("debt(0, 1, 0)", FULL).refuses("debt(99999, 999999, 1)", FULL)
                .refuses("debt(-1, 1, 0)", BEYOND).refuses("debt(100000, 1, 0)", BEYOND)
                .refuses("debt(0, 0, 0)", BEYOND).refuses("debt(0, 1000001, 0)", BEYOND)
                .refuses("debt(0, 1, 2)", BEYOND);
        section("Promise 33");
        sentence("Of a DEBT: 0 OWED, 1 how often it was MISSED, 2 1 its pledge is FORFEIT (by whichever DEBT), else "
                + "0, 3 how many DEBTS have the same pledge. BEYOND.");
        x.beyond("owed(#, 0)", -1, 6).beyond("owed(0, #)", -1, 4).answers("owed(0, 3)", 2).answers("owed(1, 3)", 2)
                .answers("owed(5, 3)", 4).answers("owed(0, 0)", 99999).answers("owed(1, 0)", 0);
        indebted(100, 10, 0).does("town()", "debt(0, 9, 0)", "debt(0, 9, 1)", "days(180)").answers("owed(0, 2)", 1)
                .answers("owed(1, 2)", 1).answers("owed(2, 2)", 0).answers("owed(1, 1)", 0).answers("owed(0, 1)", 2)
                .answers("debt(0, 9, 0)", 3).answers("owed(3, 2)", 1).answers("owed(3, 3)", 3)
                .answers("owed(2, 3)", 1);
    }

    private static void seatsAndPromises() {
        section("Promise 34");
        sentence("A PERSON is SEATED, or not: how many are. BEYOND. STATE: it is dead, or already so. FULL.");
        Scene x = court(12).does("die(11)").beyond("seat(#, true)", -1, 12).beyond("seat(#, false)", -1, 12)
                .refuses("seat(0, false)", STATE).refuses("seat(11, true)", STATE).refuses("seat(11, false)", STATE);
        for (int i = 0; i < 9; i++) {
            x.answers("seat(" + i + ", true)", i + 1).refuses("seat(" + i + ", true)", STATE);
        }
        x.refuses("seat(9, true)", FULL).refuses("seat(8, true)", STATE).refuses("seat(11, true)", STATE)
                .refuses("seat(12, true)", BEYOND).refuses("seat(9, false)", STATE).answers("seat(8, false)", 8)
                .refuses("seat(8, false)", STATE).answers("seat(9, true)", 9).refuses("seat(8, true)", FULL)
                .answers("seat(0, false)", 8);
        section("Promise 35");
        sentence("BEYOND: also a day ahead of the DAY. STATE: it isn't SEATED. FULL.");
        Scene y = court(3).does("seat(0, true)", "die(2)", "days(5)").beyond("promise(#, 0, 9, true)", -1, 3)
                .beyond("promise(0, #, 9, true)", -1, 6).beyond("promise(0, 0, #, false)", -1, 4, 2001)
                .would("promise(0, 0, 5, true)", 0).would("promise(0, 5, 2000, false)", 0)
                .refuses("promise(1, 0, 9, true)", STATE).refuses("promise(2, 0, 9, true)", STATE)
                .refuses("promise(1, 6, 9, true)", BEYOND).refuses("promise(1, 0, 4, true)", BEYOND)
                .refuses("promise(2, 0, 2001, true)", BEYOND);
        for (int i = 0; i < 30; i++) {
            y.answers("promise(0, " + i % 6 + ", 2000, " + (i % 2 == 0) + ")", i);
        }
        y.refuses("promise(0, 0, 9, true)", FULL).refuses("promise(0, 5, 5, false)", FULL)
                .refuses("promise(1, 0, 9, true)", STATE).refuses("promise(3, 0, 9, true)", BEYOND)
                .refuses("promise(0, 6, 9, true)", BEYOND).refuses("promise(0, 0, 4, true)", BEYOND);
        section("Promise 36");
        sentence("A PROMISE is BROKEN: 1. BEYOND. STATE: it doesn't stand.");
        y.beyond("breaks(#)", -1, 30).refuses("breaks(23)", STATE).answers("breaks(24)", 1)
                .refuses("breaks(24)", STATE).refuses("breaks(0)", STATE).answers("breaks(29)", 1);
    }

    private static void causesAndPrices() {
        section("Promise 37");
        sentence("2 1 it is CARRIED, else 0, 3 the least number of a PROMISE for it that was BROKEN (-1). BEYOND.");
        Scene x = court(2).does("seat(0, true)", "seat(1, true)").beyond("cause(#, 0)", -1, 6)
                .beyond("cause(0, #)", -1, 4).refuses("cause(6, 4)", BEYOND).answers("cause(0, 3)", -1)
                .does("promise(0, 5, 9, false)", "promise(1, 5, 9, true)", "promise(0, 0, 9, true)", "breaks(0)")
                .answers("cause(5, 3)", -1).does("breaks(1)").answers("cause(5, 3)", 1).answers("cause(0, 3)", -1)
                .does("promise(0, 5, 9, true)", "breaks(3)").answers("cause(5, 3)", 1).answers("cause(5, 0)", 0)
                .answers("cause(5, 1)", 2);
        x.does("breaks(2)").answers("cause(0, 3)", 2).answers("cause(0, 2)", 0);
        court(1).does("seat(0, true)", "promise(0, 0, 0, true)", "breaks(0)").answers("cause(0, 3)", 0)
                .does("days(9)", "seat(0, false)").answers("cause(0, 3)", 0).does("seat(0, true)")
                .does("promise(0, 0, 9, true)").answers("cause(0, 3)", 0).does("breaks(1)").answers("cause(0, 3)", 0);
        section("Promise 38");
        sentence("PRICE of a PERSON: what it was. BEYOND.");
        court(2).does("die(1)").beyond("price(#, 1)", -1, 2).beyond("price(0, #)", -1, 0, 1000)
                .answers("price(0, 999)", 1).answers("price(0, 1)", 999).answers("price(1, 2)", 1)
                .answers("about(1, 9)", 2);
        section("Promise 39");
        sentence("0 PRICES together, 1 the set, as bits of PERSONS. BEYOND. NONE: no set is enough.");
        court(20).refuses("buying(0, 0)", NONE).does("seat(19, true)", "price(19, 999)").beyond("buying(#, 0)", -1, 6)
                .beyond("buying(0, #)", -1, 2).answers("buying(0, 0)", 999).answers("buying(5, 1)", 1 << 19)
                .law(0, 0, "0").refuses("buying(0, 0)", NONE).refuses("buying(5, 1)", NONE)
                .refuses("buying(6, 0)", BEYOND).refuses("buying(0, 2)", BEYOND).does("strike(0)")
                .does("promise(19, 0, 0, true)").answers("buying(0, 0)", 0).answers("buying(0, 1)", 0);
    }

    private static void gatesAndNights() {
        section("Promise 40");
        sentence("GUARDS at a GATE: what they were. BEYOND.");
        new Scene().beyond("guard(#, 0)", -1, 5).beyond("guard(0, #)", -1, 7).answers("guard(0, 6)", 0)
                .answers("guard(0, 0)", 6).answers("guard(4, 6)", 0).answers("guard(4, 0)", 6)
                .answers("guard(0, 0)", 0);
        section("Promise 41");
        sentence("what 1: the least GATE that they may take in the first HOUR and win still; -1: they win by taking "
                + "none then alone. BEYOND: men, hours (1 .. 3), gate, what. NONE: what 1, they don't win.");
        guards(1).beyond("night(#, 1, 0, 0)", -1, 0, 21).beyond("night(1, #, 0, 0)", -1, 0, 4)
                .beyond("night(1, 1, #, 0)", -1, 5).beyond("night(1, 1, 0, #)", -1, 2)
                .refuses("night(1, 1, 0, 1)", NONE).refuses("night(1, 3, 0, 1)", NONE)
                .refuses("night(1, 3, 4, 1)", NONE).refuses("night(20, 3, 3, 1)", NONE)
                .refuses("night(21, 1, 0, 1)", BEYOND).refuses("night(1, 4, 0, 1)", BEYOND)
                .refuses("night(1, 1, 5, 1)", BEYOND).answers("night(1, 1, 0, 0)", 0).answers("night(1, 3, 4, 0)", 0)
                .answers("night(2, 1, 0, 1)", 0).answers("night(20, 3, 2, 1)", 0).answers("night(2, 3, 1, 1)", 0)
                .answers("night(20, 3, 4, 0)", 0);
        guards(6).refuses("night(6, 3, 0, 1)", NONE).refuses("night(6, 2, 1, 1)", NONE)
                .refuses("night(6, 3, 2, 1)", NONE).answers("night(7, 2, 1, 1)", 0).answers("night(7, 3, 2, 1)", 0);
        guards(0, 6).refuses("night(6, 3, 1, 1)", NONE).refuses("night(6, 3, 2, 1)", NONE)
                .answers("night(6, 3, 0, 1)", 0).answers("night(7, 3, 2, 1)", 0);
    }

    private static void followingAndAge() {
        section("Promise 42");
        sentence("The i-th that FOLLOWS (from 0 on). BEYOND: i is below 0. NONE.");
        row(1, 1).refuses("heir(0)", NONE).refuses("heir(-1)", BEYOND).does("person(1, -900, 0, 0)")
                .refuses("heir(0)", NONE).does("person(1, -800, 100, 0)", "person(1, -700, 0, 0)")
                .answers("heir(0)", 1).refuses("heir(1)", NONE).refuses("heir(2147483647)", NONE)
                .refuses("heir(-1)", BEYOND).refuses("heir(-2147483648)", BEYOND);
        Scene x = row(1, 1).does("person(1, -900, 0, 0)");
        for (int i = 1; i < 20; i++) {
            x.does("person(1, " + (-i - 100) + ", 100, 0)");
        }
        x.answers("heir(0)", 19).answers("heir(18)", 1).refuses("heir(19)", NONE);
        section("Promise 43");
        sentence("OF AGE. NONE: there is no such day, or no CHILD.");
        row(1, 1).refuses("age()", NONE).law(3, 0, "1").refuses("age()", NONE).does("person(1, 0, 0, 0)")
                .answers("age()", 0).law(3, 0, "d>1999").answers("age()", 2000).law(3, 0, "d>2000")
                .refuses("age()", NONE).does("strike(2)").times(5, "days(400)").answers("age()", 2000)
                .does("strike(1)", "strike(0)").answers("age()", 2000).law(3, 0, "0").refuses("age()", NONE);
        section("Promise 44");
        sentence("AFTER of a POWER. BEYOND. NONE: as of age().");
        row(1, 1).does("power(0, -1, 0)").refuses("after(0)", NONE).beyond("after(#)", -1, 1)
                .does("person(1, 0, 0, 0)").answers("after(0)", 1).law(3, 0, "0").refuses("after(0)", NONE)
                .beyond("after(#)", -1, 1).does("strike(0)").answers("after(0)", 1);
    }

    private static void plans() {
        section("Promise 45");
        sentence("BEYOND: no such SHEET. NONE: it is missing. BEYOND: it hasn't 1 .. 8 numbers, one isn't 0 .. 9999; "
                + "what. STATE: no PLAN can be.");
        Scene x = row(1, 1).beyond("plan(#, -1)", -1, 4).refuses("plan(0, -1)", NONE).refuses("plan(3, -2)", NONE)
                .refuses("plan(4, 9)", BEYOND).does("sheet(0, 32, 0)").refuses("plan(0, -1)", BEYOND)
                .refuses("plan(0, 0)", BEYOND).does("sheet(0, 32, 9)").refuses("plan(0, -1)", BEYOND)
                .does("sheet(0, 32, 24)").refuses("plan(0, 0)", BEYOND).does("sheet(0, 32, 1)")
                .beyond("plan(0, #)", -2, 1).answers("plan(0, -1)", 1000).answers("plan(0, 0)", -1)
                .does("sheet(0, 32, 8)").beyond("plan(0, #)", -2, 8).answers("plan(0, 7)", -1)
                .answers("plan(0, -1)", 1000);
        for (int cost : new int[] {-1, 10000, MIN, MAX, 65536}) {
            x.does("put(0, 7, " + cost + ")").refuses("plan(0, -1)", BEYOND).refuses("plan(0, 7)", BEYOND);
        }
        x.does("put(0, 7, 9999)").refuses("plan(0, -1)", STATE).refuses("plan(0, 7)", STATE)
                .refuses("plan(0, 8)", BEYOND).refuses("plan(0, -2)", BEYOND).does("put(0, 0, -1)")
                .refuses("plan(0, -1)", BEYOND).does("put(0, 0, 0)", "put(0, 7, 1001)").refuses("plan(0, -1)", STATE)
                .does("put(0, 7, 1000)").answers("plan(0, -1)", 0);
        row(1, 1).does("debt(99999, 1, 0)", "sheet(0, 16, 1)", "put(0, 0, 9999)").answers("plan(0, -1)", 91000)
                .does("put(0, 0, 10000)").refuses("plan(0, -1)", BEYOND).does("sheet(1, 8, 1)", "put(1, 0, 127)")
                .answers("plan(1, -1)", 100872).does("put(1, 0, 128)").refuses("plan(1, -1)", BEYOND);
        new Scene().does("sheet(3, 8, 1)").answers("plan(3, -1)", 1000).answers("plan(3, 0)", -1);
    }

    private static void voicesAndTraces() {
        section("Promise 46");
        sentence("A VOICE of a POWER: any number. BEYOND.");
        court(1).does("power(0, 0, 0)", "voice(0, 3, 5)").beyond("voice(#, 0, 0)", -1, 1)
                .beyond("voice(0, #, 0)", -1, 4).answers("voice(0, 0, 2147483647)", MAX)
                .answers("voice(0, 2, -2147483648)", MIN).answers("voice(0, 0, -1000001)", -1000001)
                .answers("found(1)", 8).answers("voice(0, 2, -1000005)", -1000005).answers("found(5)", 0);
        section("Promise 47");
        sentence("THE TRACE's i-th. NONE: there is none such.");
        court(1).does("power(0, 0, 0)").refuses("trace(0)", NONE).refuses("trace(-1)", NONE).does("voice(0, 1, 5)")
                .answers("trace(0)", 11).answers("trace(1)", 10).refuses("trace(2)", NONE).refuses("trace(-1)", NONE)
                .refuses("trace(39)", NONE).refuses("trace(40)", NONE).refuses("trace(2147483647)", NONE)
                .refuses("trace(-2147483648)", NONE).refuses("voice(1, 1, 5)", BEYOND).answers("count(12)", 2)
                .does("voice(0, 0, 5)").answers("trace(0)", 10).refuses("trace(1)", NONE).answers("count(12)", 1);
    }

    private static void sheets() {
        section("Promise 48");
        sentence("A SHEET has n numbers (0 .. 24), all 0, of so many bits (8, 16, 32; 0: it is missing, n doesn't "
                + "matter): 1. BEYOND. STATE: n is below 0 (ahead of BEYOND of n).");
        Scene x = row(1, 1).does("sheet(1, 16, 2)", "put(1, 0, 7)", "put(1, 1, 8)").beyond("sheet(#, 8, 1)", -1, 4)
                .beyond("sheet(1, #, 1)", -8, -1, 1, 4, 7, 9, 15, 17, 24, 31, 33, 64)
                .refuses("sheet(1, 8, 25)", BEYOND).refuses("sheet(1, 8, 2147483647)", BEYOND)
                .refuses("sheet(1, 8, -1)", STATE).refuses("sheet(1, 8, -2147483648)", STATE)
                .refuses("sheet(1, 32, -25)", STATE).refuses("sheet(4, 8, -1)", BEYOND)
                .refuses("sheet(1, 9, -1)", BEYOND).refuses("sheet(-1, 0, -1)", BEYOND)
                .refuses("sheet(4, 0, 1)", BEYOND).would("sheet(1, 8, 0)", 1).would("sheet(1, 32, 24)", 1)
                .answers("rents(1, 16)", STATE).answers("sheet(1, 16, 1)", 1).does("rent(0, 5)")
                .answers("rents(1, 16)", 1).answers("rent(0, 0)", 0).does("put(1, 0, 9)");
        for (int n : new int[] {MIN, -1, 0, 24, 25, MAX}) {
            x.does("sheet(1, 8, 1)").answers("sheet(1, 0, " + n + ")", 1).refuses("put(1, 0, 0)", NONE);
        }
        x.answers("sheet(3, 0, 0)", 1).does("sheet(0, 32, 24)").answers("put(0, 23, 1)", 1)
                .refuses("put(0, 24, 1)", BEYOND).does("sheet(0, 32, 0)").refuses("put(0, 0, 1)", BEYOND);
        section("Promise 49");
        sentence("Number i of a SHEET becomes v (its lowest bits): 1. BEYOND: no such SHEET. NONE: it is missing. "
                + "BEYOND: no such number.");
        Scene y = row(1, 1).beyond("put(#, 0, 0)", -1, 4).refuses("put(0, 0, 0)", NONE).refuses("put(0, -1, 0)", NONE)
                .refuses("put(0, 24, 0)", NONE).refuses("put(4, -1, 0)", BEYOND).does("sheet(0, 8, 1)")
                .beyond("put(0, #, 0)", -1, 1, 24).would("put(0, 0, -2147483648)", 1);
        int[][] low = {{127, 127}, {128, BEYOND}, {255, -1}, {254, BEYOND}, {256, 0}, {257, 1}, {383, 127},
            {-1, -1}, {-129, 127}, {-256, 0}, {MAX, -1}, {MIN, 0}};
        lowest(y, 8, low);
        lowest(y, 16, new int[][] {{999, 999}, {65535, -1}, {65534, BEYOND}, {65536, 0}, {66535, 999}, {1000, BEYOND},
            {-65536, 0}, {32768, BEYOND}, {-64537, 999}, {MAX, -1}, {MIN, 0}, {256, 256}});
        lowest(y, 32, new int[][] {{999, 999}, {65536, BEYOND}, {65535, BEYOND}, {-1, -1}, {MAX, BEYOND}, {MIN, BEYOND},
            {256, 256}});
    }

    /** What rents() makes of a number of so many bits: the RENT, -1 for one that stays, or BEYOND. */
    private static void lowest(Scene x, int bits, int[][] rows) {
        x.does("sheet(0, " + bits + ", 1)");
        for (int[] row : rows) {
            x.answers("put(0, 0, " + row[0] + ")", 1).does("rent(0, 77)")
                    .answers("rents(0, " + bits + ")", row[1] == BEYOND ? BEYOND : row[1] < 0 ? 0 : 1)
                    .answers("rent(0, 77)", row[1] < 0 ? 77 : row[1]);
        }
    }

    private static Scene numbers(Scene x, int sheet, int bits, int... numbers) {
        x.does("sheet(" + sheet + ", " + bits + ", " + numbers.length + ")");
        for (int i = 0; i < numbers.length; i++) {
            x.does("put(" + sheet + ", " + i + ", " + numbers[i] + ")");
        }
        return x;
    }

    private static void holds(Scene x, int sheet, int bits, int... numbers) {
        Scene copy = new Scene();
        for (Call call : x.calls) {
            call.on(copy.live);
            copy.calls.add(call);
        }
        copy.answers("rents(" + sheet + ", " + bits + ")", numbers.length);
        for (int i = 0; i < numbers.length; i++) {
            copy.answers("rent(" + i + ", 0)", numbers[i]);
        }
    }

    private static void moving() {
        section("Promise 50");
        sentence("as they all were: n. BEYOND: no such SHEET. NONE: one is missing. KIND: they are of unlike bits. "
                + "BEYOND: n, i, or j is below 0, or they don't stand there.");
        Scene x = row(10, 1);
        numbers(numbers(numbers(x, 0, 8, 1, 2, 3, 4, 5), 1, 8, 6, 7, 8), 2, 16, 9, 9);
        x.beyond("move(#, 0, 1, 0, 1)", -1, 4).beyond("move(0, 0, #, 0, 1)", -1, 4)
                .refuses("move(0, 0, 3, 0, 1)", NONE).refuses("move(3, 0, 0, 0, 1)", NONE)
                .refuses("move(3, 0, 3, 0, 0)", NONE).refuses("move(0, 0, 3, 0, -1)", NONE)
                .refuses("move(2, 0, 3, 0, 1)", NONE).refuses("move(3, -1, 4, 0, 1)", BEYOND)
                .refuses("move(4, 0, 3, 0, 1)", BEYOND).refuses("move(0, 0, 2, 0, 1)", KIND)
                .refuses("move(2, 0, 0, 0, 1)", KIND).refuses("move(0, 0, 2, 0, 0)", KIND)
                .refuses("move(0, 0, 2, 0, -1)", KIND).refuses("move(0, 9, 2, 9, 9)", KIND)
                .beyond("move(0, 0, 1, 0, #)", -1, 4, 5, 6).beyond("move(0, #, 1, 0, 1)", -1, 5, 6)
                .beyond("move(0, 0, 1, #, 1)", -1, 3, 4).beyond("move(0, #, 1, 0, 0)", -1, 6)
                .beyond("move(0, 0, 1, #, 0)", -1, 4).refuses("move(0, 3, 1, 0, 3)", BEYOND)
                .refuses("move(0, 0, 1, 2, 2)", BEYOND).refuses("move(1, 0, 0, 3, 3)", BEYOND)
                .refuses("move(0, 2147483647, 1, 0, 2147483647)", BEYOND)
                .refuses("move(0, 2147483647, 1, 2147483647, 1)", BEYOND)
                .refuses("move(0, 1, 0, 1, 2147483647)", BEYOND).refuses("move(0, -1, 0, 0, 0)", BEYOND)
                .would("move(0, 0, 1, 0, 0)", 0).would("move(0, 5, 1, 3, 0)", 0).would("move(0, 2, 1, 0, 3)", 3)
                .would("move(1, 0, 0, 2, 3)", 3).would("move(0, 0, 0, 0, 5)", 5).would("move(2, 0, 2, 1, 1)", 1);
        holds(x, 0, 8, 1, 2, 3, 4, 5);
        holds(x.answers("move(0, 0, 0, 1, 4)", 4), 0, 8, 1, 1, 2, 3, 4);
        holds(x.answers("move(0, 2, 0, 0, 3)", 3), 0, 8, 2, 3, 4, 3, 4);
        holds(x.answers("move(1, 0, 0, 2, 3)", 3), 0, 8, 2, 3, 6, 7, 8);
        holds(x, 1, 8, 6, 7, 8);
        holds(x.answers("move(0, 1, 1, 1, 1)", 1), 1, 8, 6, 3, 8);
        holds(x.answers("move(0, 5, 1, 3, 0)", 0), 1, 8, 6, 3, 8);
        Scene y = row(1, 1).does("sheet(0, 16, 24)", "put(0, 0, 5)", "put(0, 23, 6)", "sheet(1, 16, 24)")
                .answers("move(0, 0, 1, 0, 24)", 24).refuses("move(0, 0, 1, 0, 25)", BEYOND)
                .refuses("move(0, 1, 1, 0, 24)", BEYOND).refuses("move(0, 0, 1, 1, 24)", BEYOND)
                .answers("move(1, 0, 1, 1, 23)", 23).answers("move(1, 23, 1, 0, 1)", 1);
        y.does("sheet(2, 16, 1)", "move(1, 1, 2, 0, 1)");
        holds(y, 2, 16, 5);
    }

    private static void images() {
        section("Promise 51");
        sentence("All (but SHEETS, THE TRACE, what found() tells, and how often this was done) is kept as an IMAGE, "
                + "in place of one ahead: how often that was done.");
        court(1).does("power(0, 0, 0)", "sheet(0, 8, 1)", "voice(0, 0, 0)").answers("image()", 1)
                .does("sheet(0, 16, 1)", "sheet(1, 8, 1)", "voice(0, 1, 0)").answers("count(16)", BEYOND)
                .answers("restore()", 0).answers("put(1, 0, 0)", 1).answers("rents(0, 16)", 1).answers("trace(0)", 11)
                .answers("count(12)", 2).answers("found(1)", 1).answers("image()", 2).does("days(3)")
                .answers("image()", 3).does("days(4)").answers("restore()", 3).answers("restore()", 3)
                .answers("image()", 4);
        section("Promise 52");
        sentence("All is as the IMAGE has it, which stays: the DAY. NONE: there is none.");
        new Scene().refuses("restore()", NONE).does("days(1)").refuses("restore()", NONE).does("image()", "days(1)")
                .answers("restore()", 1).answers("count(8)", 1).does("days(5)").answers("restore()", 1);
        emptyImage();
        fullImage();
    }

    /** An IMAGE of a new object takes all away again. */
    private static void emptyImage() {
        Scene x = new Scene().does("image()").times(10, "town()").times(20, "road(0, 1, 1)")
                .times(20, "person(1, 0, 0, 0)").times(20, "power(2, 0, 0)").times(40, "draw(0, 0, 0)")
                .times(6, "debt(9, 9, 0)").does("seat(0, true)").times(30, "promise(0, 0, 9, true)")
                .times(20, "tell(0)").does("guard(0, 5)", "days(90)");
        for (int i = 0; i < 12; i++) {
            x.law(0, 0, "1");
        }
        x.feeds("11").answers("restore()", 0);
        for (int what = 0; what <= 15; what++) {
            x.answers("count(" + what + ")", what == 9 ? 1000 : 0);
        }
        x.answers("guard(0, 0)", 0).answers("town()", 0).answers("town()", 1).answers("far(0, 1)", NONE)
                .answers("own(0, -1)", -1).answers("rent(0, 0)", 0).answers("person(0, 0, 0, 1)", 0)
                .answers("about(0, 9)", 1).answers("about(0, 7)", 0).answers("power(0, 0, 0)", 0)
                .answers("held(0, 3)", -1).answers("law(0, 0)", -10);
    }

    /** An IMAGE of full rows brings all back. */
    private static void fullImage() {
        Scene x = row(10, 1).times(11, "road(0, 1, 1)").times(20, "person(1, 0, 0, 9)").times(20, "power(2, 19, 7)")
                .times(40, "draw(19, 4, 999)").times(6, "debt(9, 9, 9)").does("seat(19, true)")
                .times(30, "promise(19, 5, 9, true)").times(20, "tell(0)").does("guard(4, 5)", "rent(9, 999)",
                "own(9, 19)", "pay(19, 9)", "men(19, 9)", "price(19, 9)", "press(39, 19)", "send(39, 18)",
                "lend(19, 18, 9)");
        for (int i = 0; i < 12; i++) {
            x.law(4, 2000, "12");
        }
        x.feeds(repeated("1+", 30)).does("image()", "die(19)", "strike(11)", "open(39)", "check()", "guard(4, 0)",
                "rent(9, 0)", "own(9, -1)", "price(19, 1)", "days(9)", "go(18, 0)").answers("restore()", 0);
        int[] counts = {10, 20, 20, 20, 12, 40, 6, 30, 0, 1045, 60, 1, 0, 20, 9, 0};
        for (int what = 0; what < counts.length; what++) {
            x.answers("count(" + what + ")", counts[what]);
        }
        x.answers("about(19, 0)", 9).answers("about(19, 1)", 9).answers("about(19, 2)", 9).answers("about(19, 6)", 0)
                .answers("about(19, 7)", 1).answers("about(19, 9)", 9).answers("held(19, 1)", 19)
                .answers("held(19, 2)", 18).answers("held(19, 4)", 9).answers("letter(39, 3)", 1 << 19)
                .answers("letter(39, 4)", 18).answers("letter(39, 6)", -1).answers("force(4, 2000, 0)", 11)
                .answers("says(11, -1, -1)", 12).answers("far(0, 9)", 9).answers("guard(4, 5)", 5)
                .answers("rent(9, 999)", 999).answers("own(9, 19)", 19).answers("about(18, 0)", 9)
                .answers("cause(5, 0)", 1).answers("breaks(29)", 1).answers("open(39)", 1)
                .answers("law(0, 0)", FULL).answers("tell(0)", FULL).answers("feed(0, 1)", FULL);
    }

    private static void tellingAndCounting() {
        section("Promise 53");
        sentence("One more number waits: how many. FULL: 20 wait.");
        Scene x = new Scene();
        for (int i = 1; i <= 20; i++) {
            x.answers("tell(" + (i % 2 == 0 ? MIN : MAX) + ")", i);
        }
        x.refuses("tell(0)", FULL).refuses("tell(2147483647)", FULL).answers("count(13)", 20).answers("check()", 1)
                .answers("count(13)", 0).answers("tell(0)", 1);
        section("Promise 54");
        sentence("0 if they are; 1 and i for the first (from 0 on) that isn't, or for which there is nothing.");
        court(2).does("pay(0, 5)").answers("check()", 0).answers("count(13)", 0);
        int[][] told = {{5}, {5, 0}, {5, 0, 995}, {4}, {6}, {5, 1}, {5, -1}, {5, 0, 994}, {5, 0, 996}, {4, 1, 994},
            {5, 1, 994}, {5, 0, 995, 0}, {5, 0, 995, 995}, {5, 0, 994, 0}, {MIN}, {MAX}};
        int[] want = {0, 0, 0, 1, 1, 2, 2, 3, 3, 1, 2, 4, 4, 3, 1, 1};
        for (int i = 0; i < told.length; i++) {
            Scene y = court(2).does("pay(0, 5)");
            for (int number : told[i]) {
                y.does("tell(" + number + ")");
            }
            y.answers("check()", want[i]).answers("count(13)", 0).answers("check()", 0);
        }
        new Scene().does("tell(1000)").answers("check()", 0).does("tell(999)").answers("check()", 1)
                .does("tell(1000)", "tell(0)").answers("check()", 2);
        Scene many = court(19).times(19, "tell(0)").does("tell(1000)").answers("check()", 0);
        many.times(19, "tell(0)").does("tell(0)").answers("check()", 20);
        court(20).times(20, "tell(0)").answers("check()", 0).times(19, "tell(0)").does("tell(1)")
                .answers("check()", 20);
        section("Promise 55");
        sentence("14 COIN of all PERSONS, 15 LETTERS on their way. BEYOND.");
        row(2, 2).does("person(1, 0, 0, 0)", "person(1, 0, 0, 1)", "draw(0, 0, 0)", "draw(0, 0, 0)", "draw(0, 0, 0)",
                "pay(0, 9)", "pay(1, 7)").beyond("count(#)", -1, 16).answers("count(14)", 16).answers("count(15)", 0)
                .does("send(0, 0)").answers("count(15)", 0).does("send(1, 1)").answers("count(15)", 1)
                .does("send(2, 1)").answers("count(15)", 2).does("days(1)").answers("count(15)", 2).does("days(1)")
                .answers("count(15)", 0).does("die(1)").answers("count(14)", 9);
        section("Promise 56");
        sentence("How many acts have answered a finding LOW - k (k 1 .. 5); BEYOND: another k (counted, too).");
        new Scene().beyond("found(#)", -1, 0, 6, 1000001, -1000001);
        Scene z = new Scene().does("sheet(0, 8, 1)").times(20, "tell(0)");
        String[] refused = {"far(0, 0)", "restore()", "sheet(0, 8, -1)", "tell(0)", "rents(0, 16)"};
        int[] findings = {BEYOND, NONE, STATE, FULL, KIND};
        for (int round = 1; round <= 3; round++) {
            for (int k = 1; k <= 5; k++) {
                z.answers(refused[k - 1], findings[k - 1]).answers("found(" + k + ")", round)
                        .answers("found(" + (k % 5 + 1) + ")", k == 5 ? round : round - 1);
            }
        }
        z.answers("found(6)", BEYOND).answers("found(1)", 4).answers("found(0)", BEYOND).answers("found(1)", 5)
                .answers("image()", 1).answers("found(-1)", BEYOND).answers("restore()", 0).answers("found(1)", 6);
    }

    private static void run() {
        findings();
        termOfTowns();
        termOfPersons();
        termOfKnowing();
        termOfPowers();
        termOfReading();
        termOfMeaning();
        termOfLaws();
        termOfLetters();
        termOfObeying();
        termOfDays();
        termOfDebts();
        termOfCouncil();
        termOfBuying();
        termOfLevelBuying();
        termOfNight();
        termOfFollowing();
        termOfStaying();
        termOfPlans();
        termOfVoices();
        termOfSheets();
        newObject();
        townsAndRoads();
        newPersons();
        dying();
        going();
        aboutPersons();
        payingAndMen();
        powersOfKinds();
        givingAndLending();
        tapeAndLaws();
        drawingAndPressing();
        sendingAndOpening();
        obeying();
        aboutLetters();
        daysAndRents();
        rentsOfSheets();
        debts();
        seatsAndPromises();
        causesAndPrices();
        gatesAndNights();
        followingAndAge();
        plans();
        voicesAndTraces();
        sheets();
        moving();
        images();
        tellingAndCounting();
    }

    public static void main(String[] args) throws IOException {
        readDocument();
        for (Method method : SealCouncil.class.getDeclaredMethods()) {
            METHODS.put(method.getName(), method);
        }
        prepareLooks();
        run();
        for (String name : DOCUMENT.keySet()) {
            section = name;
            sentence = "";
            if (!TESTED.contains(name)) {
                fail("no sentence of it is tested");
            }
        }
        System.out.println(wrong == 0 ? "all boundaries hold; " + refusals + " refused calls changed nothing"
                : wrong + " boundaries don't hold");
        if (wrong != 0) {
            System.exit(1);
        }
    }
}
