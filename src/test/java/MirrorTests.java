import java.io.ByteArrayInputStream;
import java.io.ByteArrayOutputStream;
import java.io.IOException;
import java.io.ObjectInputStream;
import java.io.ObjectOutputStream;
import java.io.Serializable;
import java.lang.reflect.InvocationTargetException;
import java.lang.reflect.Method;
import java.util.ArrayDeque;
import java.util.ArrayList;
import java.util.Arrays;
import java.util.Comparator;
import java.util.LinkedHashMap;
import java.util.List;
import java.util.Map;
import java.util.Random;
import java.util.TreeSet;

/** Random runs of calls on SealCouncil and on Mirror, a second model of the document, must answer alike. */
public final class MirrorTests {
    private static final int RUNS = 1200;
    private static final int CALLS = 512;
    /** look() and what else is begun last take less than this. */
    private static final int LOOKS = 260;
    private static final int MOST_POSTED = 15;

    /** What an argument is: a letter for its range, as argument() reads it. */
    private static final Map<String, String> CALLS_OF = new LinkedHashMap<>();

    /** The findings that the document tells of each call, as digits: 1 BEYOND .. 5 KIND. */
    private static final String FINDINGS = "town4 road14 far12 person14 die13 go132 about1 pay132 men13 power14 as15"
            + " held1 give13 lend153 copy1534 feed14 law14 strike13 force12 says1 draw134 press153 send132 open13"
            + " obey1352 letter1 days1 rent1 own13 rents1253 debt14 owed1 seat134 promise134 breaks13 cause1 price1"
            + " buying12 guard1 night12 heir12 age2 after12 plan123 voice1 trace2 sheet13 put12 move125 image restore2"
            + " tell4 check count1 found1";

    static {
        String all = "town road:ttR far:tt person:sBpt die:p go:pt about:pA pay:pN men:pM power:KhW as:qK held:qH"
                + " give:qh lend:qpD copy:q feed:Ln law:UF strike:l force:Udk says:lhm draw:pSV press:eq send:ep"
                + " open:e obey:e letter:eA days:Y rent:tV own:th rents:xX debt:OTt owed:bC seat:pz promise:pcDz"
                + " breaks:r cause:cC price:pP buying:cZ guard:gG night:IRgZ heir:g age after:q plan:xE voice:qCV"
                + " trace:i sheet:xXi put:xiv move:xixii image restore tell:w check count:j found:f";
        for (String one : all.split(" ")) {
            String[] parts = one.split(":");
            CALLS_OF.put(parts[0], parts.length > 1 ? parts[1] : "");
        }
    }

    /** How often each call answered each finding, or (at 0) anything else. */
    private static final Map<String, int[]> SEEN = new LinkedHashMap<>();

    private static void note(String name, int answer) {
        int k = answer < -1000000 && answer >= -1000005 ? -1000000 - answer : 0;
        SEEN.computeIfAbsent(name, n -> new int[6])[k]++;
    }

    private final Random random;
    private final Mirror mirror = new Mirror();
    private final SealCouncil real = new SealCouncil();
    private final List<String> log = new ArrayList<>();

    private MirrorTests(long seed) {
        // The first numbers of seeds that lie near one another would be much alike.
        random = new Random(seed * 0x9e3779b97f4a7c15L);
    }

    private int below(int n) {
        return n <= 0 ? 0 : random.nextInt(n);
    }

    private boolean seldom() {
        return below(25) == 0;
    }

    private int one(int least, int most) {
        if (seldom()) {
            int[] odd = {least - 1, most + 1, -1, Integer.MAX_VALUE, Integer.MIN_VALUE};
            return odd[below(odd.length)];
        }
        return least + below(most - least + 1);
    }

    private int of(int count) {
        return one(0, Math.max(0, count - 1));
    }

    private Object argument(char kind) {
        Mirror.Realm r = mirror.realm;
        switch (kind) {
            case 't': return of(r.towns.size());
            case 'p': return of(r.persons.size());
            case 'h': return below(6) == 0 ? -1 : of(r.persons.size());
            case 'm': return below(3) == 0 ? -1 : of(r.letters.size());
            case 'q': return of(r.powers.size());
            case 'l': return of(r.laws.size());
            case 'e': return below(3) == 0 ? of(r.letters.size())
                    : Math.max(0, r.letters.size() - 1 - below(4));
            case 'b': return of(r.debts.size());
            case 'r': return of(r.promises.size());
            case 'R': return one(1, 3);
            case 's': return one(0, 1);
            case 'B': return below(3) == 0 ? one(-20000, r.day) : one(-2000, r.day);
            case 'A': return one(0, 9);
            case 'N': return below(4) == 0 ? one(1, 9999) : one(1, 99);
            case 'M': return one(-99, 99);
            case 'K': return below(2) == 0 ? 2 : one(0, 5);
            case 'W': return one(0, 99);
            case 'H': return one(0, 4);
            case 'D': return below(4) == 0 ? one(r.day, 2000) : one(r.day, Math.min(2000, r.day + 20));
            case 'n': return one(1, 8);
            case 'L': return random.nextLong();
            case 'U': return one(0, 4);
            case 'F': return below(3) == 0 ? one(0, 2000) : one(0, r.day);
            case 'd': return one(0, Math.min(2000, r.day + 40));
            case 'k': return one(-1, Math.min(2000, r.day + 5));
            case 'S': return one(0, 4);
            case 'V': return below(3) == 0 ? one(0, 999) : one(0, 12);
            case 'Y': return below(8) == 0 ? one(1, 400) : one(1, 9);
            case 'x': return below(2) == 0 ? 0 : one(0, 3);
            case 'X': return below(10) == 0 ? one(0, 33) : new int[] {32, 16, 8, 0, 32, 32}[below(6)];
            case 'O': return below(3) == 0 ? one(0, 99999) : one(0, 999);
            case 'T': return below(4) == 0 ? one(1, 999999) : 10000 * below(30) + 1 + below(400);
            case 'C': return one(0, 3);
            case 'z': return below(3) != 0;
            case 'c': return below(3) == 0 ? one(0, 5) : one(0, 1);
            case 'P': return one(1, 999) % 9;
            case 'Z': return one(0, 1);
            case 'g': return one(0, 4);
            case 'G': return one(0, 6);
            case 'I': return one(1, 20);
            case 'E': return one(-1, 3);
            case 'i': return below(2) == 0 ? one(0, 24) : one(0, 4);
            case 'v': return below(2) == 0 ? one(0, 999) : one(-1, 40000);
            case 'w': return waited(r);
            case 'j': return one(0, 15);
            case 'f': return one(1, 5);
            default: return random.nextInt();
        }
    }

    /** Mostly what check() would have. */
    private int waited(Mirror.Realm r) {
        int i = r.waiting.size();
        int due = i < r.persons.size() ? r.persons.get(i).coin : r.chest;
        return below(9) == 0 ? due + 1 : due;
    }

    private Object[] argumentsOf(String name, String kinds) {
        Object[] arguments = new Object[kinds.length()];
        for (int i = 0; i < arguments.length; i++) {
            arguments[i] = argument(kinds.charAt(i));
        }
        if (name.equals("person")) {
            arguments[2] = parents();
        }
        return arguments;
    }

    private int parents() {
        int n = mirror.realm.persons.size();
        if (seldom()) {
            return one(0, 2200);
        }
        return 100 * (below(2) == 0 ? 0 : below(n + 1)) + (below(2) == 0 ? 0 : below(n + 1));
    }

    private String text(int depth) {
        int kind = below(depth <= 0 ? 2 : 12);
        switch (kind) {
            case 0: return String.valueOf(below(below(2) == 0 ? 10 : 10000));
            case 1: case 2: case 3: return String.valueOf("askcmtbyowd".charAt(below(11)));
            case 4: return "!" + text(depth - 1);
            case 5: return "(" + text(depth - 1) + ")";
            default: return text(depth - 1) + "|&<=>+-".charAt(below(7)) + text(depth - 1);
        }
    }

    /** A TEXT, or one with a byte that is not as it was, fed by words. */
    private void feedText() throws ReflectiveOperationException {
        StringBuilder text = new StringBuilder(text(below(5)));
        if (below(5) == 0 && text.length() > 0) {
            int at = below(text.length());
            String signs = "0aA()!|&<=>+- 9z";
            if (below(2) == 0) {
                text.setCharAt(at, signs.charAt(below(signs.length())));
            } else {
                text.setLength(at);
            }
        }
        for (int i = 0; i < text.length(); i += 8) {
            long word = random.nextLong();
            int n = Math.min(8, text.length() - i);
            for (int j = 0; j < n; j++) {
                word = word & ~(255L << 8 * j) | (long) text.charAt(i + j) << 8 * j;
            }
            call("feed", word, n);
        }
    }

    private void call(String name, Object... arguments) throws ReflectiveOperationException {
        Class<?>[] types = new Class<?>[arguments.length];
        for (int i = 0; i < types.length; i++) {
            types[i] = arguments[i] instanceof Long ? long.class
                    : arguments[i] instanceof Boolean ? boolean.class : int.class;
        }
        Method mine = SealCouncil.class.getMethod(name, types);
        Method theirs = Mirror.class.getMethod(name, types);
        String shown = name + Arrays.toString(arguments);
        Object want = theirs.invoke(mirror, arguments);
        Object got;
        try {
            got = mine.invoke(real, arguments);
        } catch (InvocationTargetException e) {
            throw new IllegalStateException(log + "\n" + shown + " threw " + e.getCause(), e);
        }
        log.add(shown + " = " + got);
        note(name, (int) got);
        if (!got.equals(want)) {
            throw new IllegalStateException(String.join("\n", log) + "\n  the mirror: " + want);
        }
    }

    /** A realm to begin with, so that most calls find what they ask for. */
    private void settle() throws ReflectiveOperationException {
        int towns = 1 + below(7);
        for (int i = 0; i < towns; i++) {
            call("town");
            if (i > 0 && below(8) != 0) {
                call("road", below(i), i, 1 + below(5));
            }
        }
        int persons = below(28);
        for (int i = 0; i < persons; i++) {
            call("person", argumentsOf("person", CALLS_OF.get("person")));
        }
        for (String name : new String[] {"power", "rent", "seat", "guard", "price", "debt"}) {
            for (int i = below(8); i > 0; i--) {
                call(name, argumentsOf(name, CALLS_OF.get(name)));
            }
        }
    }

    /** A SHEET of COSTS that THE PLAN may just bear, and all that is told of it. */
    private void costs() throws ReflectiveOperationException {
        int sheet = below(4);
        int n = 1 + below(8);
        int most = 1 + below(2 * (mirror.realm.chest / n + 100));
        call("sheet", sheet, below(2) == 0 ? 16 : 32, n);
        for (int i = 0; i < n; i++) {
            call("put", sheet, i, below(Math.min(9999, most)));
        }
        for (int what = -1; what < n; what++) {
            call("plan", sheet, what);
        }
    }

    /** THE CHEST is emptied, so that DEBTS are MISSED, and what is FORFEIT is asked for. */
    private void ruin() throws ReflectiveOperationException {
        call("debt", 1 + below(900), 10000 * below(50) + 1 + below(9999), argument('t'));
        int person = of(mirror.realm.persons.size());
        for (int i = 0; i < 4 && mirror.realm.chest > 0; i++) {
            call("pay", person, Math.min(9999, mirror.realm.chest));
        }
        call("days", 90 + below(200));
        for (int i = 0; i < mirror.realm.debts.size(); i++) {
            call("owed", i, below(4));
            call("own", mirror.realm.debts.get(i).pledge, argument('h'));
        }
    }

    private void readSheet() throws ReflectiveOperationException {
        int sheet = below(4);
        int bits = 8 << below(3);
        int n = below(mirror.realm.towns.size() + 2);
        call("sheet", sheet, bits, n);
        for (int i = 0; i < n; i++) {
            call("put", sheet, i, argument('v'));
        }
        call("move", sheet, below(n + 1), sheet, below(n + 1), below(n + 1));
        call("rents", sheet, bits);
        for (int t = 0; t < mirror.realm.towns.size(); t++) {
            call("rent", t, below(200));
        }
    }

    /** One way that a LETTER may go, to the end. */
    private void post() throws ReflectiveOperationException {
        call("draw", argumentsOf("draw", CALLS_OF.get("draw")));
        int letter = Math.max(0, mirror.realm.letters.size() - 1);
        for (int i = below(3); i > 0; i--) {
            call("press", letter, of(mirror.realm.powers.size()));
        }
        call("send", letter, of(mirror.realm.persons.size()));
        if (below(2) == 0) {
            call("days", 1 + below(9));
        }
        call("open", letter);
        call("obey", letter);
        call("letter", letter, 9);
    }

    private void look() throws ReflectiveOperationException {
        Mirror.Realm r = mirror.realm;
        for (int what = 0; what <= 15; what++) {
            call("count", what);
        }
        for (int p = 0; p < r.persons.size(); p++) {
            for (int what = 0; what <= 9; what++) {
                call("about", p, what);
            }
        }
        for (int k = 1; k <= 5; k++) {
            call("found", k);
        }
    }

    /** Each run is about some of the calls more than about others, so that what is full or past is met too. */
    private void run() throws ReflectiveOperationException {
        if (below(20) != 0) {
            settle();
        }
        List<String> names = new ArrayList<>(CALLS_OF.keySet());
        List<String> focus = new ArrayList<>();
        for (int i = 2 + below(10); i > 0; i--) {
            focus.add(names.get(below(names.size())));
        }
        int texts = below(8);
        int posts = below(8);
        int plans = below(3);
        while (log.size() < CALLS - LOOKS) {
            int dice = below(100);
            if (dice < posts) {
                post();
            } else if (dice < posts + texts) {
                feedText();
                call("law", argument('U'), argument('F'));
            } else if (dice < posts + texts + plans) {
                costs();
            } else if (dice == 99) {
                readSheet();
            } else if (dice == 98) {
                ruin();
            } else {
                List<String> some = below(3) == 0 ? names : focus;
                String name = some.get(below(some.size()));
                boolean rare = name.equals("die") || name.equals("restore") || name.equals("image");
                if (!rare || below(8) == 0) {
                    call(name, argumentsOf(name, CALLS_OF.get(name)));
                }
            }
        }
        look();
        if (log.size() > CALLS) {
            throw new IllegalStateException("a run of " + log.size() + " calls");
        }
    }

    /** Few coins and small RENTS, so that PLANS are often forced and often level. */
    private void runPlans() throws ReflectiveOperationException {
        int towns = 1 + below(8);
        for (int i = 0; i < towns; i++) {
            call("town");
            call("rent", i, below(below(2) == 0 ? 4 : 40));
        }
        call("person", 1, 0, 0, 0);
        call("pay", 0, 1000 - below(60));
        call("own", below(towns), below(3) - 1);
        for (int round = 0; round < 12; round++) {
            int n = 1 + below(round < 11 ? 5 : 7);
            int most = 1 + below(250);
            call("sheet", 0, 16, n);
            for (int i = 0; i < n; i++) {
                call("put", 0, i, below(most));
            }
            for (int what = -1; what < n; what++) {
                call("plan", 0, what);
            }
            call("rent", below(towns), below(40));
        }
    }

    /** Many SEATED, with PRICES and WEIGHTS that are often level. */
    private void runCouncil() throws ReflectiveOperationException {
        call("town");
        int persons = 3 + below(8);
        for (int i = 0; i < persons; i++) {
            call("person", below(2), -below(9000), 0, 0);
            call("seat", i, true);
        }
        int eager = 1 + below(4);
        for (int round = 0; round < 44; round++) {
            call("price", below(persons), 1 + below(6));
            if (below(3) == 0) {
                call("power", below(6), below(persons), 1);
            }
            if (below(4) < eager) {
                call("promise", below(persons), below(2), mirror.realm.day + below(9), below(3) != 0);
            }
            if (below(20) == 0) {
                feedText();
                call("law", 0, 0);
            }
            for (int what = 0; what < 2; what++) {
                call("cause", what, 0);
                call("buying", 0, what);
            }
        }
    }

    /** LAWS of AGE and STAYS whose worth turns on some day, and the days on which it does. */
    private void runAges() throws ReflectiveOperationException {
        call("town");
        call("person", 1, -below(2000), 0, 0);
        call("person", 0, -below(9000), 0, 0);
        call("power", below(6), below(3) - 1, 1);
        for (int round = 0; round < 11; round++) {
            int years = below(8);
            int day = below(2001);
            String[] texts = {"a>" + years, "a=" + years, "d=" + day, "a+" + years, "0", "k", "c=" + below(3),
                "d>" + day + "&a>" + years, "(a-" + years + "=0)+(d>" + day + ")"};
            String text = texts[below(texts.length)];
            for (int i = 0; i < text.length(); i++) {
                call("feed", (long) text.charAt(i), 1);
            }
            call("law", 3 + below(2), below(3) == 0 ? 2000 - below(3) : below(3) == 0 ? 0 : below(2001));
            call("age");
            call("after", 0);
            if (below(4) == 0) {
                call("strike", below(mirror.realm.laws.size()));
            }
            if (below(2) == 0) {
                call("days", 1 + below(180));
            }
            call("age");
            call("after", 0);
        }
    }

    private void enactText(String text, int use, int from) throws ReflectiveOperationException {
        for (int i = 0; i < text.length(); i++) {
            call("feed", (long) text.charAt(i), 1);
        }
        call("law", use, from);
    }

    /** Few PERSONS that travel, with SEALS that are lent and copied, and all that may befall LETTERS. */
    private void runLetters() throws ReflectiveOperationException {
        int towns = 2 + below(3);
        int persons = 3 + below(5);
        for (int i = 0; i < towns; i++) {
            call("town");
            if (i > 0) {
                call("road", below(i), i, 1 + below(3));
            }
        }
        for (int i = 0; i < persons; i++) {
            call("person", below(2), -below(9000), 0, below(3) == 0 ? below(towns) : 0);
            call("power", below(4) == 0 ? 1 : 2, i, below(9));
            call("seat", i, true);
        }
        int end = CALLS - 10 * MOST_POSTED - 4 * persons - 20;
        while (log.size() < end && mirror.realm.day < 1990) {
            stepOfLetters(towns, persons);
        }
        for (int letter = 0; letter < Math.min(MOST_POSTED, mirror.realm.letters.size()); letter++) {
            for (int what = 0; what <= 9; what++) {
                call("letter", letter, what);
            }
        }
        for (int p = 0; p < persons; p++) {
            call("about", p, 0);
            call("about", p, 1);
            call("about", p, 4);
            call("about", p, 5);
        }
        for (int what = 0; what <= 15; what++) {
            call("count", what);
        }
    }

    private void stepOfLetters(int towns, int persons) throws ReflectiveOperationException {
        int letters = mirror.realm.letters.size();
        int letter = Math.max(0, letters - 1 - below(3));
        int power = below(mirror.realm.powers.size());
        int person = below(persons);
        switch (below(22)) {
            case 0: case 1: case 2:
                if (letters < MOST_POSTED) {
                    call("draw", person, below(5), below(below(3) == 0 ? 400 : 8));
                }
                break;
            case 3: case 4: case 5: case 6: call("press", letter, power); break;
            case 7: case 8: call("send", letter, person); break;
            case 9: case 10: case 11: call("open", below(Math.max(1, letters))); break;
            case 12: case 13: call("obey", below(Math.max(1, letters))); break;
            case 14: call("go", person, below(towns)); break;
            case 15: call("lend", power, person, mirror.realm.day + below(4)); break;
            case 16: call(below(2) == 0 ? "copy" : "strike", power); break;
            case 17: call("days", 1 + below(3)); break;
            case 18: call("promise", person, below(2), mirror.realm.day + below(9), below(3) != 0); break;
            case 19: call("breaks", below(Math.max(1, mirror.realm.promises.size()))); break;
            case 20: rareStep(towns, person, power); break;
            default: askOfLetters(letter, person); break;
        }
    }

    private void rareStep(int towns, int person, int power) throws ReflectiveOperationException {
        String[] texts = {"y", "y>1", "o<3&y", "d-w", "t=0", "k+c>0", "!m|a>9", "w<5"};
        switch (below(9)) {
            case 0: call("image"); break;
            case 1: call("restore"); break;
            case 2: call("die", person); break;
            case 3: call("road", below(towns), below(towns), 1 + below(2)); break;
            case 4: call("give", power, person); break;
            case 5: call("seat", person, below(2) == 0); break;
            default: enactText(texts[below(texts.length)], below(2), Math.max(0, mirror.realm.day + below(5) - 2));
        }
    }

    private void askOfLetters(int letter, int person) throws ReflectiveOperationException {
        switch (below(5)) {
            case 0: call("letter", letter, 9); break;
            case 1: call("about", person, 4); break;
            case 2: call("cause", below(2), below(4)); break;
            case 3: call("force", below(2), mirror.realm.day, mirror.realm.day - below(4)); break;
            default: call("count", 15);
        }
    }

    /** The number, and 1, of one that may be a parent of that SEX; 0 if none is found. */
    private int parentOf(int born, int sex) {
        for (int i = 0; i < 6; i++) {
            int p = below(mirror.realm.persons.size());
            boolean fits = mirror.realm.persons.get(p).sex == sex && mirror.realm.persons.get(p).born < born;
            if (fits || below(60) == 0) {
                return p + 1;
            }
        }
        return 0;
    }

    /** A family, so that most PERSONS are of THE CHILD's blood, and who FOLLOWS while some die. */
    private void runKin() throws ReflectiveOperationException {
        call("town");
        call("person", below(2), -5000 + below(3), 0, 0);
        String[] texts = {"s", "!s", "a>20", "b<4", "b-2", "a+s>15", "!k", "d>100", "1", "a<40", "t=0"};
        for (int round = 0; round < 26; round++) {
            Mirror.Realm r = mirror.realm;
            int born = Math.min(r.day, -8000 + below(5) * 2000 + below(2));
            call("person", below(2), born, 100 * parentOf(born, 1) + parentOf(born, 0), 0);
            if (below(6) == 0) {
                enactText(texts[below(texts.length)], 2, below(3) == 0 ? below(200) : 0);
            }
            if (below(8) == 0) {
                call("strike", below(Math.max(1, r.laws.size())));
            }
            if (below(6) == 0) {
                call("die", below(r.persons.size()));
            }
            if (below(5) == 0) {
                call("days", 1 + below(60));
            }
            for (int i = 0; i < 5; i++) {
                call("heir", below(6));
            }
            call("about", below(r.persons.size()), 8);
        }
        for (int i = 0; i < 20; i++) {
            call("heir", i);
        }
    }

    /** VOICES of all KINDS with their traces, and nights that are often just won or just lost. */
    private void runVoices() throws ReflectiveOperationException {
        for (int i = 0; i < 10; i++) {
            call("power", below(6), -1, below(100));
            call("voice", i, below(4), below(2) == 0 ? random.nextInt() : below(50));
            for (int j = 0; j < 14; j++) {
                call("trace", j);
            }
        }
        for (int round = 0; round < 10; round++) {
            for (int gate = 0; gate < 5; gate++) {
                call("guard", gate, below(below(2) == 0 ? 3 : 7));
            }
            int least = below(12);
            for (int i = 0; i < 12; i++) {
                call("night", 1 + least + below(8), 1 + below(3), below(3), below(2));
            }
        }
    }

    private static boolean areAllSeen() {
        boolean all = true;
        for (String one : FINDINGS.split(" ")) {
            String name = one.replaceAll("[0-9]", "");
            int[] seen = SEEN.getOrDefault(name, new int[6]);
            for (int k = 0; k <= 5; k++) {
                boolean due = k == 0 || one.indexOf('0' + k) >= 0;
                if (due != seen[k] > 0) {
                    all = false;
                    System.out.println(name + ": finding " + k + " was answered " + seen[k] + " times");
                }
            }
        }
        return all;
    }

    public static void main(String[] args) throws ReflectiveOperationException {
        int runs = args.length > 0 ? Integer.parseInt(args[0]) : RUNS;
        long first = args.length > 1 ? Long.parseLong(args[1]) : 1;
        for (long seed = first; seed < first + runs; seed++) {
            try {
                new MirrorTests(seed).run();
                new MirrorTests(seed).runPlans();
                new MirrorTests(seed).runCouncil();
                new MirrorTests(seed).runAges();
                new MirrorTests(seed).runLetters();
                new MirrorTests(seed).runKin();
                new MirrorTests(seed).runVoices();
            } catch (IllegalStateException e) {
                System.out.println("seed " + seed + "\n" + e.getMessage());
                System.exit(1);
            }
        }
        System.out.println(7 * runs + " runs are alike");
        if (!areAllSeen()) {
            System.exit(1);
        }
    }

    /** The document once more, in the plainest way: nothing is kept that could be asked for anew. */
    public static final class Mirror {
        private static final int BEYOND = -1000001;
        private static final int NONE = -1000002;
        private static final int STATE = -1000003;
        private static final int FULL = -1000004;
        private static final int KIND = -1000005;
        private static final int[] ABOVE = {-1, 0, 0, 1, 3, 0};

        private static final class Person implements Serializable {
            private static final long serialVersionUID = 1L;
            int sex, born, father, mother, town, to, due, coin, men, known = -1, price = 1;
            boolean road, dead, seated;
        }

        private static final class Power implements Serializable {
            private static final long serialVersionUID = 1L;
            int kind, worth, holder, lent = -1, till = -1, mark = -1;
        }

        private static final class Law implements Serializable {
            private static final long serialVersionUID = 1L;
            String text;
            int use, from, made, struck = -1;
        }

        private static final class Letter implements Serializable {
            private static final long serialVersionUID = 1L;
            int drawer, sort, worth, town, to = -1, toTown, there = -1, opened = -1, good = -1, obeyed;
            TreeSet<Integer> marks = new TreeSet<>();
            TreeSet<Integer> atDrawing = new TreeSet<>();
            List<TreeSet<Integer>> pressings = new ArrayList<>();
        }

        private static final class Debt implements Serializable {
            private static final long serialVersionUID = 1L;
            int owed, rate, due, pledge, missed;
        }

        private static final class Promise implements Serializable {
            private static final long serialVersionUID = 1L;
            int person, cause, till;
            boolean is, over, broken;
        }

        private static final class Town implements Serializable {
            private static final long serialVersionUID = 1L;
            int rent, owner = -1;
            boolean forfeit;
        }

        private static final class Realm implements Serializable {
            private static final long serialVersionUID = 1L;
            final List<Town> towns = new ArrayList<>();
            final List<int[]> roads = new ArrayList<>();
            final List<Person> persons = new ArrayList<>();
            final List<Power> powers = new ArrayList<>();
            final List<Law> laws = new ArrayList<>();
            final List<Letter> letters = new ArrayList<>();
            final List<Debt> debts = new ArrayList<>();
            final List<Promise> promises = new ArrayList<>();
            final List<Integer> waiting = new ArrayList<>();
            final int[] guards = new int[5];
            final StringBuilder tape = new StringBuilder();
            int day;
            int chest = 1000;
        }

        private Realm realm = new Realm();
        private byte[] image;
        private int images;
        private final List<Integer> trace = new ArrayList<>();
        private final int[] found = new int[6];
        private final Object[] sheets = new Object[4];

        private int find(int finding) {
            found[-1000000 - finding]++;
            return finding;
        }

        private static boolean in(int v, int least, int most) {
            return least <= v && v <= most;
        }

        private static boolean at(int i, List<?> list) {
            return in(i, 0, list.size() - 1);
        }

        private boolean alive(int p) {
            return at(p, realm.persons) && !realm.persons.get(p).dead;
        }

        /** As of each act: whoever is in a TOWN knows what has come there. */
        private int learn(int answer) {
            for (Person p : realm.persons) {
                if (!p.dead && !p.road) {
                    int way = way(0, p.town);
                    p.known = way < 0 ? p.known : Math.max(p.known, realm.day - way);
                }
            }
            return answer;
        }

        private int way(int a, int b) {
            int n = realm.towns.size();
            int[] days = new int[n];
            Arrays.fill(days, 99999);
            days[a] = 0;
            for (int round = 0; round < n; round++) {
                for (int[] road : realm.roads) {
                    days[road[0]] = Math.min(days[road[0]], days[road[1]] + road[2]);
                    days[road[1]] = Math.min(days[road[1]], days[road[0]] + road[2]);
                }
            }
            return days[b] >= 99999 ? -1 : days[b];
        }

        private int steps(int p) {
            int n = realm.persons.size();
            int[] far = new int[n];
            Arrays.fill(far, 99);
            ArrayDeque<Integer> queue = new ArrayDeque<>();
            far[0] = 0;
            queue.add(0);
            while (!queue.isEmpty()) {
                int q = queue.remove();
                for (int i = 0; i < n; i++) {
                    boolean kin = realm.persons.get(i).father == q || realm.persons.get(i).mother == q
                            || realm.persons.get(q).father == i || realm.persons.get(q).mother == i;
                    if (kin && far[i] == 99) {
                        far[i] = far[q] + 1;
                        queue.add(i);
                    }
                }
            }
            return far[p];
        }

        public int town() {
            if (realm.towns.size() == 10) {
                return find(FULL);
            }
            realm.towns.add(new Town());
            return realm.towns.size() - 1;
        }

        public int road(int a, int b, int days) {
            if (!at(a, realm.towns) || !at(b, realm.towns) || a == b || !in(days, 1, 9)) {
                return find(BEYOND);
            }
            if (realm.roads.size() == 20) {
                return find(FULL);
            }
            realm.roads.add(new int[] {a, b, days});
            return learn(realm.roads.size());
        }

        public int far(int a, int b) {
            if (!at(a, realm.towns) || !at(b, realm.towns)) {
                return find(BEYOND);
            }
            return way(a, b) < 0 ? find(NONE) : way(a, b);
        }

        public int person(int sex, int born, int parents, int town) {
            if (!in(sex, 0, 1) || !in(born, -20000, realm.day) || parents < 0 || !at(town, realm.towns)) {
                return find(BEYOND);
            }
            int[] two = {parents / 100 - 1, parents % 100 - 1};
            for (int i = 0; i < 2; i++) {
                if (two[i] != -1 && (!at(two[i], realm.persons) || realm.persons.get(two[i]).sex == i
                        || realm.persons.get(two[i]).born >= born)) {
                    return find(BEYOND);
                }
            }
            if (realm.persons.size() == 20) {
                return find(FULL);
            }
            Person p = new Person();
            p.sex = sex;
            p.born = born;
            p.father = two[0];
            p.mother = two[1];
            p.town = town;
            realm.persons.add(p);
            return learn(realm.persons.size() - 1);
        }

        private void unseat(int person) {
            realm.persons.get(person).seated = false;
            for (Promise p : realm.promises) {
                p.over |= p.person == person;
            }
        }

        public int die(int person) {
            if (!at(person, realm.persons)) {
                return find(BEYOND);
            }
            if (!alive(person)) {
                return find(STATE);
            }
            Person p = realm.persons.get(person);
            int coin = p.coin;
            realm.chest += coin;
            p.coin = 0;
            p.men = 0;
            p.dead = true;
            unseat(person);
            for (Power power : realm.powers) {
                if (power.holder == person) {
                    power.holder = -1;
                    power.lent = -1;
                }
                power.lent = power.lent == person ? -1 : power.lent;
            }
            return coin;
        }

        private int leave(int person, int town) {
            Person p = realm.persons.get(person);
            int way = way(p.town, town);
            if (way < 0) {
                return find(NONE);
            }
            learn(0);
            p.road = way > 0;
            p.to = town;
            p.due = realm.day + way;
            return p.due;
        }

        public int go(int person, int town) {
            if (!at(person, realm.persons) || !at(town, realm.towns)) {
                return find(BEYOND);
            }
            return !alive(person) || realm.persons.get(person).road ? find(STATE) : leave(person, town);
        }

        public int about(int person, int what) {
            if (!at(person, realm.persons) || !in(what, 0, 9)) {
                return find(BEYOND);
            }
            Person p = realm.persons.get(person);
            return new int[] {p.road ? -1 : p.town, p.coin, p.men, (realm.day - p.born) / 360, p.known,
                holds(person), p.dead ? 1 : 0, p.seated ? 1 : 0, steps(person), p.price}[what];
        }

        private int holds(int person) {
            return (int) realm.powers.stream().filter(q -> q.holder == person).count();
        }

        public int pay(int person, int n) {
            if (!at(person, realm.persons) || !in(n, 1, 9999)) {
                return find(BEYOND);
            }
            return alive(person) ? grant(person, n) : find(STATE);
        }

        private int grant(int person, int n) {
            if (realm.chest < n) {
                return find(NONE);
            }
            realm.persons.get(person).coin += n;
            return realm.chest -= n;
        }

        public int men(int person, int n) {
            if (!at(person, realm.persons) || !in(n, -99, 99)) {
                return find(BEYOND);
            }
            if (!alive(person)) {
                return find(STATE);
            }
            Person p = realm.persons.get(person);
            return in(p.men + n, 0, 999) ? p.men += n : find(BEYOND);
        }

        public int power(int kind, int holder, int worth) {
            if (!in(kind, 0, 5) || holder != -1 && !alive(holder) || !in(worth, 0, 99)) {
                return find(BEYOND);
            }
            return realm.powers.size() == 20 ? find(FULL) : addPower(kind, holder, worth, -1);
        }

        private int addPower(int kind, int holder, int worth, int mark) {
            Power p = new Power();
            p.kind = kind;
            p.holder = holder;
            p.worth = worth;
            p.mark = mark >= 0 ? mark : kind == 2 ? realm.powers.size() : -1;
            realm.powers.add(p);
            return realm.powers.size() - 1;
        }

        private static boolean isUnder(int kind, int wanted) {
            return kind == wanted || kind > 0 && isUnder(ABOVE[kind], wanted);
        }

        public int as(int power, int kind) {
            if (!at(power, realm.powers) || !in(kind, 0, 5)) {
                return find(BEYOND);
            }
            Power p = realm.powers.get(power);
            return isUnder(p.kind, kind) ? p.worth : find(KIND);
        }

        private int has(Power p) {
            return p.lent >= 0 ? p.lent : p.holder;
        }

        public int held(int power, int what) {
            if (!at(power, realm.powers) || !in(what, 0, 4)) {
                return find(BEYOND);
            }
            Power p = realm.powers.get(power);
            return new int[] {p.kind, p.holder, has(p), p.mark, p.lent < 0 ? -1 : p.till}[what];
        }

        public int give(int power, int person) {
            if (!at(power, realm.powers) || person != -1 && !alive(person)) {
                return find(BEYOND);
            }
            Power p = realm.powers.get(power);
            if (p.lent >= 0) {
                return find(STATE);
            }
            int was = p.holder;
            p.holder = person;
            return was;
        }

        public int lend(int power, int person, int till) {
            if (!at(power, realm.powers) || !alive(person) || !in(till, realm.day, 2000)) {
                return find(BEYOND);
            }
            Power p = realm.powers.get(power);
            if (p.kind != 2) {
                return find(KIND);
            }
            if (p.holder < 0 || p.lent >= 0 || p.holder == person) {
                return find(STATE);
            }
            p.lent = person;
            p.till = till;
            return 1;
        }

        public int copy(int power) {
            if (!at(power, realm.powers)) {
                return find(BEYOND);
            }
            Power p = realm.powers.get(power);
            if (p.kind != 2) {
                return find(KIND);
            }
            if (has(p) < 0) {
                return find(STATE);
            }
            return realm.powers.size() == 20 ? find(FULL) : addPower(2, has(p), 0, p.mark);
        }

        public int feed(long word, int n) {
            if (!in(n, 1, 8)) {
                return find(BEYOND);
            }
            if (realm.tape.length() + n > 60) {
                return find(FULL);
            }
            for (int i = 0; i < n; i++) {
                realm.tape.append((char) (word >> 8 * i & 255));
            }
            return realm.tape.length();
        }

        /**
         * FAULT by what may come next: signs that are open lie on a stack, and for each level it is
         * kept whether its B has had its comparison.
         */
        private static int faultOf(String text) {
            ArrayDeque<Character> open = new ArrayDeque<>();
            ArrayDeque<Boolean> compared = new ArrayDeque<>();
            compared.push(false);
            boolean operand = true;
            int digits = 0;
            for (int i = 0; i < text.length(); i++) {
                char c = text.charAt(i);
                boolean digit = c >= '0' && c <= '9';
                if (operand && (c == '!' || c == '(') && open.size() < 5) {
                    open.push(c);
                    if (c == '(') {
                        compared.push(false);
                    }
                } else if (operand && (digit || "askcmtbyowd".indexOf(c) >= 0)) {
                    operand = false;
                    digits = digit ? 1 : 9;
                    close(open);
                } else if (!operand && digit && digits < 4) {
                    digits++;
                } else if (!operand && c == ')' && open.contains('(')) {
                    open.pop();
                    compared.pop();
                    digits = 9;
                    close(open);
                } else if (!operand && "+-&|<=>".indexOf(c) >= 0 && !("<=>".indexOf(c) >= 0 && compared.peek())) {
                    operand = true;
                    if ("+-".indexOf(c) < 0) {
                        compared.pop();
                        compared.push("<=>".indexOf(c) >= 0);
                    }
                } else {
                    return i;
                }
            }
            return operand || !open.isEmpty() ? text.length() : -1;
        }

        private static void close(ArrayDeque<Character> open) {
            while (!open.isEmpty() && open.peek() == '!') {
                open.pop();
            }
        }

        public int law(int use, int from) {
            if (!in(use, 0, 4) || !in(from, 0, 2000)) {
                return find(BEYOND);
            }
            if (realm.laws.size() == 12) {
                return find(FULL);
            }
            String text = realm.tape.toString();
            realm.tape.setLength(0);
            int fault = faultOf(text);
            if (fault >= 0) {
                return -10 - fault;
            }
            Law law = new Law();
            law.text = text;
            law.use = use;
            law.from = from;
            law.made = realm.day;
            realm.laws.add(law);
            return realm.laws.size() - 1;
        }

        public int strike(int law) {
            if (!at(law, realm.laws)) {
                return find(BEYOND);
            }
            if (realm.laws.get(law).struck >= 0) {
                return find(STATE);
            }
            realm.laws.get(law).struck = realm.day;
            return 1;
        }

        private int inForce(int use, int day, int k) {
            int best = -1;
            for (int i = 0; i < realm.laws.size(); i++) {
                Law law = realm.laws.get(i);
                boolean struck = law.struck >= 0 && law.struck <= k;
                if (law.use == use && law.made <= k && !struck && law.from <= day
                        && (best < 0 || law.made >= realm.laws.get(best).made)) {
                    best = i;
                }
            }
            return best;
        }

        public int force(int use, int day, int k) {
            if (!in(use, 0, 4) || !in(day, 0, 2000) || !in(k, -1, 2000)) {
                return find(BEYOND);
            }
            return inForce(use, day, k) < 0 ? find(NONE) : inForce(use, day, k);
        }

        private int name(char c, int person, int letter, int day) {
            Person p = person < 0 ? null : realm.persons.get(person);
            Letter l = letter < 0 ? null : realm.letters.get(letter);
            switch (c) {
                case 'a': return p == null ? 0 : (day - p.born) / 360;
                case 's': return p == null ? 0 : p.sex;
                case 'k': return p == null ? 0 : holds(person);
                case 'c': return p == null ? 0 : p.coin;
                case 'm': return p == null ? 0 : p.men;
                case 't': return p == null ? 0 : p.road ? 10 : p.town;
                case 'b': return p == null ? 0 : steps(person);
                case 'y': return l == null ? 0 : l.marks.size();
                case 'o': return l == null ? 0 : l.sort;
                case 'w': return l == null ? 0 : l.worth;
                default: return day;
            }
        }

        /** Splits at the last sign of the loosest sort that stands outside all brackets. */
        private int value(String text, int person, int letter, int day) {
            for (String signs : new String[] {"|", "&", "<=>", "+-"}) {
                int depth = 0;
                for (int i = text.length() - 1; i >= 0; i--) {
                    char c = text.charAt(i);
                    depth += c == ')' ? 1 : c == '(' ? -1 : 0;
                    if (depth == 0 && signs.indexOf(c) >= 0) {
                        int left = value(text.substring(0, i), person, letter, day);
                        int right = value(text.substring(i + 1), person, letter, day);
                        return join(c, left, right);
                    }
                }
            }
            char first = text.charAt(0);
            if (first == '!') {
                return value(text.substring(1), person, letter, day) == 0 ? 1 : 0;
            }
            if (first == '(') {
                return value(text.substring(1, text.length() - 1), person, letter, day);
            }
            return Character.isDigit(first) ? Integer.parseInt(text) : name(first, person, letter, day);
        }

        private static int join(char c, int left, int right) {
            switch (c) {
                case '|': return left != 0 | right != 0 ? 1 : 0;
                case '&': return left != 0 & right != 0 ? 1 : 0;
                case '<': return left < right ? 1 : 0;
                case '=': return left == right ? 1 : 0;
                case '>': return left > right ? 1 : 0;
                case '+': return left + right;
                default: return left - right;
            }
        }

        private int rule(int use, int day, int k, int person, int letter) {
            int law = inForce(use, day, k);
            return law < 0 ? 1 : value(realm.laws.get(law).text, person, letter, day);
        }

        public int says(int law, int person, int letter) {
            if (!at(law, realm.laws) || person != -1 && !at(person, realm.persons)
                    || letter != -1 && !at(letter, realm.letters)) {
                return find(BEYOND);
            }
            return value(realm.laws.get(law).text, person, letter, realm.day);
        }

        public int draw(int person, int sort, int worth) {
            if (!at(person, realm.persons) || !in(sort, 0, 4) || !in(worth, 0, 999)) {
                return find(BEYOND);
            }
            Person p = realm.persons.get(person);
            if (p.dead || p.road) {
                return find(STATE);
            }
            if (realm.letters.size() == 40) {
                return find(FULL);
            }
            Letter letter = new Letter();
            letter.drawer = person;
            letter.sort = sort;
            letter.worth = worth;
            letter.town = p.town;
            for (int i = 0; i < realm.persons.size(); i++) {
                if (isIn(i, p.town)) {
                    letter.atDrawing.add(i);
                }
            }
            realm.letters.add(letter);
            return realm.letters.size() - 1;
        }

        private boolean isIn(int person, int town) {
            return alive(person) && !realm.persons.get(person).road && realm.persons.get(person).town == town;
        }

        public int press(int letter, int power) {
            if (!at(letter, realm.letters) || !at(power, realm.powers)) {
                return find(BEYOND);
            }
            Letter l = realm.letters.get(letter);
            Power p = realm.powers.get(power);
            if (p.kind != 2) {
                return find(KIND);
            }
            if (l.to >= 0 || has(p) < 0 || !isIn(has(p), l.town)) {
                return find(STATE);
            }
            TreeSet<Integer> hands = new TreeSet<>();
            for (Power other : realm.powers) {
                if (other.kind == 2 && other.mark == p.mark && isIn(has(other), l.town)) {
                    hands.add(has(other));
                }
            }
            l.pressings.add(hands);
            l.marks.add(p.mark);
            return l.marks.size();
        }

        public int send(int letter, int person) {
            if (!at(letter, realm.letters) || !at(person, realm.persons)) {
                return find(BEYOND);
            }
            Letter l = realm.letters.get(letter);
            Person p = realm.persons.get(person);
            if (l.to >= 0 || p.dead || p.road) {
                return find(STATE);
            }
            int way = way(l.town, p.town);
            if (way < 0) {
                return find(NONE);
            }
            l.to = person;
            l.toTown = p.town;
            return l.there = realm.day + way;
        }

        public int open(int letter) {
            if (!at(letter, realm.letters)) {
                return find(BEYOND);
            }
            Letter l = realm.letters.get(letter);
            if (l.to < 0 || l.there > realm.day || l.opened >= 0 || !isIn(l.to, l.toTown)) {
                return find(STATE);
            }
            l.opened = realm.day;
            return l.good = rule(1, realm.day, realm.persons.get(l.to).known, l.to, letter) == 0 ? 0 : 1;
        }

        public int obey(int letter) {
            if (!at(letter, realm.letters)) {
                return find(BEYOND);
            }
            Letter l = realm.letters.get(letter);
            if (l.opened < 0 || l.obeyed == 1 || !alive(l.to)) {
                return find(STATE);
            }
            if (l.good == 0) {
                return find(KIND);
            }
            int answer = obeyed(l);
            l.obeyed = answer == NONE ? 0 : 1;
            return answer;
        }

        private int obeyed(Letter l) {
            if (l.sort == 0) {
                return grant(l.to, l.worth);
            }
            if (l.sort == 1) {
                return realm.persons.get(l.to).road ? find(NONE) : leave(l.to, l.worth % realm.towns.size());
            }
            if (l.sort == 2) {
                if (!at(l.worth, realm.powers)) {
                    return find(NONE);
                }
                Power p = realm.powers.get(l.worth);
                int was = p.holder;
                p.holder = l.to;
                p.lent = -1;
                return was;
            }
            if (l.sort == 3) {
                if (!at(l.worth, realm.laws) || realm.laws.get(l.worth).struck >= 0) {
                    return find(NONE);
                }
                realm.laws.get(l.worth).struck = realm.day;
                return 1;
            }
            int stood = 0;
            for (Promise p : realm.promises) {
                if (p.person == l.to && stands(p)) {
                    p.broken = true;
                    stood++;
                }
            }
            return stood;
        }

        public int letter(int letter, int what) {
            if (!at(letter, realm.letters) || !in(what, 0, 9)) {
                return find(BEYOND);
            }
            Letter l = realm.letters.get(letter);
            TreeSet<Integer> could = new TreeSet<>(l.pressings.isEmpty() ? l.atDrawing : l.pressings.get(0));
            for (TreeSet<Integer> hands : l.pressings) {
                could.retainAll(hands);
            }
            return new int[] {l.drawer, l.sort, l.worth, bits(l.marks), l.to, l.there, l.opened, l.good, l.obeyed,
                bits(could)}[what];
        }

        private static int bits(Iterable<Integer> set) {
            int bits = 0;
            for (int i : set) {
                bits += 1 << i;
            }
            return bits;
        }

        public int days(int n) {
            if (!in(n, 1, 400) || realm.day + n > 2000) {
                return find(BEYOND);
            }
            for (int i = 0; i < n; i++) {
                realm.day++;
                for (Person p : realm.persons) {
                    if (p.road && p.due == realm.day) {
                        p.road = false;
                        p.town = p.to;
                    }
                }
                for (Power p : realm.powers) {
                    p.lent = p.till < realm.day ? -1 : p.lent;
                }
                learn(0);
                if (realm.day % 90 == 0) {
                    quarter();
                }
            }
            return realm.day;
        }

        private void quarter() {
            for (Town t : realm.towns) {
                if (t.forfeit) {
                    continue;
                }
                if (t.owner >= 0 && alive(t.owner)) {
                    realm.persons.get(t.owner).coin += t.rent;
                } else {
                    realm.chest += t.rent;
                }
            }
            for (Person p : realm.persons) {
                while (p.men > p.coin) {
                    p.men--;
                }
                p.coin -= p.men;
            }
            for (Debt d : realm.debts) {
                d.owed = (int) Math.min(999999L, d.owed + (long) d.owed * d.rate / 100);
                int due = Math.min(d.due, d.owed);
                if (realm.chest >= due) {
                    realm.chest -= due;
                    d.owed -= due;
                } else if (++d.missed == 2) {
                    realm.towns.get(d.pledge).forfeit = true;
                }
            }
        }

        public int rent(int town, int n) {
            if (!at(town, realm.towns) || !in(n, 0, 999)) {
                return find(BEYOND);
            }
            int was = realm.towns.get(town).rent;
            realm.towns.get(town).rent = n;
            return was;
        }

        public int own(int town, int person) {
            if (!at(town, realm.towns) || person != -1 && !alive(person)) {
                return find(BEYOND);
            }
            Town t = realm.towns.get(town);
            if (t.forfeit) {
                return find(STATE);
            }
            int was = t.owner;
            t.owner = person;
            return was;
        }

        private int bitsOf(int sheet) {
            return sheets[sheet] == null ? 0 : sheets[sheet] instanceof byte[] ? 8
                    : sheets[sheet] instanceof short[] ? 16 : 32;
        }

        private int[] numbers(int sheet) {
            if (sheets[sheet] instanceof int[]) {
                return ((int[]) sheets[sheet]).clone();
            }
            int n = java.lang.reflect.Array.getLength(sheets[sheet]);
            int[] numbers = new int[n];
            for (int i = 0; i < n; i++) {
                numbers[i] = java.lang.reflect.Array.getInt(sheets[sheet], i);
            }
            return numbers;
        }

        public int rents(int sheet, int bits) {
            if (!in(sheet, 0, 3) || bits != 8 && bits != 16 && bits != 32) {
                return find(BEYOND);
            }
            if (sheets[sheet] == null) {
                return find(NONE);
            }
            if (bitsOf(sheet) != bits) {
                return find(KIND);
            }
            int[] numbers = numbers(sheet);
            if (numbers.length > realm.towns.size()) {
                return find(STATE);
            }
            int told = 0;
            for (int v : numbers) {
                if (!in(v, -1, 999)) {
                    return find(BEYOND);
                }
                told += v == -1 ? 0 : 1;
            }
            for (int i = 0; i < numbers.length; i++) {
                Town t = realm.towns.get(i);
                t.rent = numbers[i] == -1 ? t.rent : numbers[i];
            }
            return told;
        }

        public int debt(int owed, int terms, int pledge) {
            if (!in(owed, 0, 99999) || !in(terms, 0, 999999) || terms % 10000 == 0 || !at(pledge, realm.towns)) {
                return find(BEYOND);
            }
            if (realm.debts.size() == 6) {
                return find(FULL);
            }
            Debt d = new Debt();
            d.owed = owed;
            d.rate = terms / 10000;
            d.due = terms % 10000;
            d.pledge = pledge;
            realm.chest += owed;
            realm.debts.add(d);
            return realm.debts.size() - 1;
        }

        public int owed(int debt, int what) {
            if (!at(debt, realm.debts) || !in(what, 0, 3)) {
                return find(BEYOND);
            }
            Debt d = realm.debts.get(debt);
            int same = (int) realm.debts.stream().filter(other -> other.pledge == d.pledge).count();
            return new int[] {d.owed, d.missed, realm.towns.get(d.pledge).forfeit ? 1 : 0, same}[what];
        }

        private List<Integer> seated() {
            List<Integer> seated = new ArrayList<>();
            for (int i = 0; i < realm.persons.size(); i++) {
                if (realm.persons.get(i).seated) {
                    seated.add(i);
                }
            }
            return seated;
        }

        public int seat(int person, boolean is) {
            if (!at(person, realm.persons)) {
                return find(BEYOND);
            }
            Person p = realm.persons.get(person);
            if (p.dead || p.seated == is) {
                return find(STATE);
            }
            if (is && seated().size() == 9) {
                return find(FULL);
            }
            if (!is) {
                unseat(person);
            }
            p.seated = is;
            return seated().size();
        }

        private boolean stands(Promise p) {
            return !p.broken && !p.over && p.till >= realm.day;
        }

        public int promise(int person, int cause, int till, boolean is) {
            if (!at(person, realm.persons) || !in(cause, 0, 5) || !in(till, realm.day, 2000)) {
                return find(BEYOND);
            }
            if (!realm.persons.get(person).seated) {
                return find(STATE);
            }
            if (realm.promises.size() == 30) {
                return find(FULL);
            }
            for (Promise p : realm.promises) {
                p.over |= p.person == person && p.cause == cause;
            }
            Promise p = new Promise();
            p.person = person;
            p.cause = cause;
            p.till = till;
            p.is = is;
            realm.promises.add(p);
            return realm.promises.size() - 1;
        }

        public int breaks(int promise) {
            if (!at(promise, realm.promises)) {
                return find(BEYOND);
            }
            if (!stands(realm.promises.get(promise))) {
                return find(STATE);
            }
            realm.promises.get(promise).broken = true;
            return 1;
        }

        private int weight(int person) {
            int k = realm.persons.get(seated().get(0)).known;
            if (rule(0, realm.day, k, person, -1) == 0) {
                return 0;
            }
            return 1 + (int) realm.powers.stream().filter(q -> q.holder == person && isUnder(q.kind, 1)).count();
        }

        private boolean promised(int person, int cause) {
            return realm.promises.stream().anyMatch(p -> p.person == person && p.cause == cause && p.is && stands(p));
        }

        public int cause(int cause, int what) {
            if (!in(cause, 0, 5) || !in(what, 0, 3)) {
                return find(BEYOND);
            }
            int all = 0;
            int pro = 0;
            for (int p : seated()) {
                all += weight(p);
                pro += promised(p, cause) ? weight(p) : 0;
            }
            int broken = -1;
            for (int i = realm.promises.size() - 1; i >= 0; i--) {
                Promise p = realm.promises.get(i);
                broken = p.broken && p.is && p.cause == cause ? i : broken;
            }
            return new int[] {pro, all, pro * 2 > all ? 1 : 0, broken}[what];
        }

        public int price(int person, int v) {
            if (!at(person, realm.persons) || !in(v, 1, 999)) {
                return find(BEYOND);
            }
            int was = realm.persons.get(person).price;
            realm.persons.get(person).price = v;
            return was;
        }

        public int buying(int cause, int what) {
            if (!in(cause, 0, 5) || !in(what, 0, 1)) {
                return find(BEYOND);
            }
            List<Integer> seated = seated();
            int[] weights = seated.stream().mapToInt(this::weight).toArray();
            int all = Arrays.stream(weights).sum();
            List<int[]> sets = new ArrayList<>();
            for (int set = 0; set < 1 << seated.size(); set++) {
                int pro = 0;
                int price = 0;
                int bits = 0;
                boolean may = true;
                for (int i = 0; i < seated.size(); i++) {
                    boolean for1 = promised(seated.get(i), cause);
                    boolean bought = (set >> i & 1) == 1;
                    may &= !(for1 && bought);
                    pro += for1 || bought ? weights[i] : 0;
                    price += bought ? realm.persons.get(seated.get(i)).price : 0;
                    bits += bought ? 1 << seated.get(i) : 0;
                }
                if (may && pro * 2 > all) {
                    sets.add(new int[] {price, bits});
                }
            }
            sets.sort(Comparator.<int[]>comparingInt(s -> s[0]).thenComparingInt(s -> Integer.bitCount(s[1]))
                    .thenComparingInt(s -> s[1]));
            return sets.isEmpty() ? find(NONE) : sets.get(0)[what];
        }

        public int guard(int gate, int n) {
            if (!in(gate, 0, 4) || !in(n, 0, 6)) {
                return find(BEYOND);
            }
            int was = realm.guards[gate];
            realm.guards[gate] = n;
            return was;
        }

        /** GATES that are taken as bits, so that nothing is supposed of their order. */
        private boolean wins(int men, int hours, int told, int taken, int[] guards, int firstGate) {
            if (hours == 0) {
                return false;
            }
            for (int gate = -1; gate < 5; gate++) {
                if (firstGate != -2 && gate != firstGate) {
                    continue;
                }
                int next = taken;
                int left = men;
                if (gate >= 0) {
                    boolean beside = gate == 0 || (taken >> (gate - 1) & 1) == 1 || (taken >> (gate + 1) & 1) == 1;
                    if (!beside || (taken >> gate & 1) == 1 || men <= guards[gate]) {
                        continue;
                    }
                    if (gate == told) {
                        return true;
                    }
                    next |= 1 << gate;
                    left -= guards[gate];
                }
                if (winsAll(left, hours - 1, told, next, guards)) {
                    return true;
                }
            }
            return false;
        }

        private boolean winsAll(int men, int hours, int told, int taken, int[] guards) {
            if (!wins(men, hours, told, taken, guards, -2)) {
                return false;
            }
            for (int from = 0; from < 5; from++) {
                for (int to = 0; to < 5; to++) {
                    boolean free = (taken >> from & 1) == 0 && (taken >> to & 1) == 0;
                    if (Math.abs(from - to) == 1 && free && guards[from] > 0 && guards[to] < 6) {
                        int[] moved = guards.clone();
                        moved[from]--;
                        moved[to]++;
                        if (!wins(men, hours, told, taken, moved, -2)) {
                            return false;
                        }
                    }
                }
            }
            return true;
        }

        public int night(int men, int hours, int gate, int what) {
            if (!in(men, 1, 20) || !in(hours, 1, 3) || !in(gate, 0, 4) || !in(what, 0, 1)) {
                return find(BEYOND);
            }
            if (what == 0) {
                return wins(men, hours, gate, 0, realm.guards, -2) ? 1 : 0;
            }
            for (int first : new int[] {0, 1, 2, 3, 4, -1}) {
                if (wins(men, hours, gate, 0, realm.guards, first)) {
                    return first;
                }
            }
            return find(NONE);
        }

        public int heir(int i) {
            if (i < 0) {
                return find(BEYOND);
            }
            List<Integer> line = new ArrayList<>();
            for (int p = 1; p < realm.persons.size(); p++) {
                if (alive(p) && steps(p) != 99 && rule(2, realm.day, realm.day, p, -1) != 0) {
                    line.add(p);
                }
            }
            line.sort(Comparator.<Integer>comparingInt(this::steps).thenComparingInt(p -> realm.persons.get(p).born)
                    .thenComparingInt(p -> p));
            return i < line.size() ? line.get(i) : find(NONE);
        }

        private int ofAge() {
            for (int day = realm.day; day <= 2000 && !realm.persons.isEmpty(); day++) {
                if (rule(3, day, realm.day, 0, -1) != 0) {
                    return day;
                }
            }
            return -1;
        }

        public int age() {
            int day = ofAge();
            return day < 0 ? find(NONE) : day;
        }

        public int after(int power) {
            if (!at(power, realm.powers)) {
                return find(BEYOND);
            }
            int day = ofAge();
            if (day < 0) {
                return find(NONE);
            }
            int fate = rule(4, day, realm.day, realm.powers.get(power).holder, -1);
            return in(fate, 0, 1) ? fate : 2;
        }

        private int[] best;
        private int bestLeaves;

        /** Every PLAN there is, in the order in which the earlier one is the one that is wanted. */
        private void planOn(int quarter, int coin, int pledged, int[] costs, int[] plan) {
            if (quarter == costs.length) {
                int leaves = coin + 8 * income(pledged);
                if (best == null || leaves > bestLeaves) {
                    best = plan.clone();
                    bestLeaves = leaves;
                }
                return;
            }
            for (int t = -1; t < 6; t++) {
                if (t >= 0 && (!isFree(t) || (pledged >> t & 1) == 1)) {
                    continue;
                }
                int left = coin + income(pledged) + (t < 0 ? 0 : 4 * realm.towns.get(t).rent) - costs[quarter];
                plan[quarter] = t;
                if (left >= 0) {
                    planOn(quarter + 1, left, t < 0 ? pledged : pledged | 1 << t, costs, plan);
                }
            }
        }

        private boolean isFree(int t) {
            return at(t, realm.towns) && realm.towns.get(t).owner == -1 && !realm.towns.get(t).forfeit;
        }

        private int income(int pledged) {
            int sum = 0;
            for (int t = 0; t < 6; t++) {
                sum += isFree(t) && (pledged >> t & 1) == 0 ? realm.towns.get(t).rent : 0;
            }
            return sum;
        }

        public int plan(int sheet, int what) {
            if (!in(sheet, 0, 3)) {
                return find(BEYOND);
            }
            if (sheets[sheet] == null) {
                return find(NONE);
            }
            int[] costs = numbers(sheet);
            if (!in(costs.length, 1, 8) || !in(what, -1, costs.length - 1)
                    || Arrays.stream(costs).anyMatch(c -> !in(c, 0, 9999))) {
                return find(BEYOND);
            }
            best = null;
            planOn(0, realm.chest, 0, costs, new int[costs.length]);
            if (best == null) {
                return find(STATE);
            }
            return what < 0 ? bestLeaves : best[what];
        }

        private class PowerVoice {
            final int n;
            final int w;

            PowerVoice(int n, int w) {
                this.n = n;
                this.w = w;
            }

            int act(int x) {
                trace.add(10);
                return x + w;
            }

            int bind(int x) {
                trace.add(11);
                return act(x) * 2;
            }

            int rank(int x) {
                trace.add(12);
                return x - n;
            }

            int tell(int x) {
                trace.add(13);
                return bind(x) ^ rank(x);
            }
        }

        private class OfficeVoice extends PowerVoice {
            OfficeVoice(int n, int w) {
                super(n, w);
            }

            @Override
            int act(int x) {
                trace.add(20);
                return super.act(x) + n;
            }

            @Override
            int tell(int x) {
                trace.add(21);
                return super.tell(x + 1);
            }
        }

        private class SealVoice extends PowerVoice {
            SealVoice(int n, int w) {
                super(n, w);
            }

            @Override
            int rank(int x) {
                trace.add(30);
                return super.rank(x) * 3;
            }
        }

        private class GuardVoice extends OfficeVoice {
            GuardVoice(int n, int w) {
                super(n, w);
            }

            @Override
            int bind(int x) {
                trace.add(40);
                return super.bind(x) - act(x);
            }
        }

        private final class MarchVoice extends GuardVoice {
            MarchVoice(int n, int w) {
                super(n, w);
            }

            @Override
            int act(int x) {
                trace.add(50);
                return super.act(x - w);
            }

            @Override
            int tell(int x) {
                trace.add(51);
                return rank(x) - super.tell(x);
            }
        }

        private final class ClaimVoice extends PowerVoice {
            ClaimVoice(int n, int w) {
                super(n, w);
            }

            @Override
            int bind(int x) {
                trace.add(60);
                return super.bind(x) + w;
            }
        }

        public int voice(int power, int act, int x) {
            if (!at(power, realm.powers) || !in(act, 0, 3)) {
                return find(BEYOND);
            }
            trace.clear();
            int w = realm.powers.get(power).worth;
            PowerVoice[] kinds = {new PowerVoice(power, w), new OfficeVoice(power, w), new SealVoice(power, w),
                new GuardVoice(power, w), new MarchVoice(power, w), new ClaimVoice(power, w)};
            PowerVoice voice = kinds[realm.powers.get(power).kind];
            return act == 0 ? voice.act(x) : act == 1 ? voice.bind(x) : act == 2 ? voice.rank(x) : voice.tell(x);
        }

        public int trace(int i) {
            return in(i, 0, Math.min(40, trace.size()) - 1) ? trace.get(i) : find(NONE);
        }

        public int sheet(int sheet, int bits, int n) {
            if (!in(sheet, 0, 3) || bits != 0 && bits != 8 && bits != 16 && bits != 32) {
                return find(BEYOND);
            }
            if (bits != 0 && n < 0) {
                return find(STATE);
            }
            if (bits != 0 && n > 24) {
                return find(BEYOND);
            }
            sheets[sheet] = bits == 0 ? null : bits == 8 ? new byte[n]
                    : bits == 16 ? (Object) new short[n] : new int[n];
            return 1;
        }

        public int put(int sheet, int i, int v) {
            if (!in(sheet, 0, 3)) {
                return find(BEYOND);
            }
            if (sheets[sheet] == null) {
                return find(NONE);
            }
            if (!in(i, 0, numbers(sheet).length - 1)) {
                return find(BEYOND);
            }
            if (sheets[sheet] instanceof byte[]) {
                ((byte[]) sheets[sheet])[i] = (byte) v;
            } else if (sheets[sheet] instanceof short[]) {
                ((short[]) sheets[sheet])[i] = (short) v;
            } else {
                ((int[]) sheets[sheet])[i] = v;
            }
            return 1;
        }

        public int move(int sheet, int i, int other, int j, int n) {
            if (!in(sheet, 0, 3) || !in(other, 0, 3)) {
                return find(BEYOND);
            }
            if (sheets[sheet] == null || sheets[other] == null) {
                return find(NONE);
            }
            if (bitsOf(sheet) != bitsOf(other)) {
                return find(KIND);
            }
            if (i < 0 || j < 0 || n < 0 || (long) i + n > numbers(sheet).length
                    || (long) j + n > numbers(other).length) {
                return find(BEYOND);
            }
            System.arraycopy(sheets[sheet], i, sheets[other], j, n);
            return n;
        }

        public int image() {
            try (ByteArrayOutputStream bytes = new ByteArrayOutputStream();
                    ObjectOutputStream out = new ObjectOutputStream(bytes)) {
                out.writeObject(realm);
                out.flush();
                image = bytes.toByteArray();
            } catch (IOException e) {
                throw new IllegalArgumentException(e);
            }
            return ++images;
        }

        public int restore() {
            if (image == null) {
                return find(NONE);
            }
            try (ObjectInputStream in = new ObjectInputStream(new ByteArrayInputStream(image))) {
                realm = (Realm) in.readObject();
            } catch (IOException | ClassNotFoundException e) {
                throw new IllegalArgumentException(e);
            }
            return realm.day;
        }

        public int tell(int v) {
            if (realm.waiting.size() == 20) {
                return find(FULL);
            }
            realm.waiting.add(v);
            return realm.waiting.size();
        }

        public int check() {
            List<Integer> coins = new ArrayList<>();
            realm.persons.forEach(p -> coins.add(p.coin));
            coins.add(realm.chest);
            List<Integer> told = new ArrayList<>(realm.waiting);
            realm.waiting.clear();
            for (int i = 0; i < told.size(); i++) {
                if (i >= coins.size() || !coins.get(i).equals(told.get(i))) {
                    return 1 + i;
                }
            }
            return 0;
        }

        public int count(int what) {
            if (!in(what, 0, 15)) {
                return find(BEYOND);
            }
            int coins = realm.persons.stream().mapToInt(p -> p.coin).sum();
            int ways = (int) realm.letters.stream().filter(l -> l.to >= 0 && realm.day < l.there).count();
            return new int[] {realm.towns.size(), realm.roads.size(), realm.persons.size(), realm.powers.size(),
                realm.laws.size(), realm.letters.size(), realm.debts.size(), realm.promises.size(), realm.day,
                realm.chest, realm.tape.length(), seated().size(), Math.min(40, trace.size()), realm.waiting.size(),
                coins, ways}[what];
        }

        public int found(int k) {
            return in(k, 1, 5) ? found[k] : find(BEYOND);
        }
    }
}
