import java.util.Arrays;

/**
 * A council that rules in the name of a child. The promises that it keeps are numbered in
 * ../shared/DOC.md; the words in capitals below are that document's terms.
 */
public final class SealCouncil {
    private static final int LOW = -1000000;
    private static final int BEYOND = LOW - 1;
    private static final int NONE = LOW - 2;
    private static final int STATE = LOW - 3;
    private static final int FULL = LOW - 4;
    private static final int KIND = LOW - 5;
    private static final int FINDINGS = 5;

    private static final int LAST_DAY = 2000;
    private static final int QUARTER_DAYS = 90;
    private static final int YEAR_DAYS = 360;
    private static final int MOST_TOWNS = 10;
    private static final int MOST_ROADS = 20;
    private static final int MOST_PERSONS = 20;
    private static final int MOST_POWERS = 20;
    private static final int MOST_LAWS = 12;
    private static final int MOST_LETTERS = 40;
    private static final int MOST_DEBTS = 6;
    private static final int MOST_SEATED = 9;
    private static final int MOST_PROMISES = 30;
    private static final int MOST_WAITING = 20;
    private static final int MOST_MEN = 999;
    private static final int MOST_OWED = 999999;
    private static final int TAPE_BYTES = 60;
    private static final int CAUSES = 6;
    private static final int GATES = 5;
    private static final int MOST_GUARDS = 6;
    private static final int SHEETS = 4;
    private static final int SHEET_NUMBERS = 24;

    private static final int COURT = 0;
    private static final int CHILD = 0;
    private static final int NO_WAY = 1000;
    private static final int NO_BLOOD = 99;
    private static final int NOBODY = -1;

    /* The columns of a TOWN. */
    private static final int TOWN_RENT = 0;
    private static final int TOWN_OWNER = 1;
    private static final int TOWN_FORFEIT = 2;
    private static final int TOWN_WIDTH = 3;

    /* The columns of a PERSON; PERSON_AT is -1 on the road. */
    private static final int PERSON_SEX = 0;
    private static final int PERSON_BORN = 1;
    private static final int PERSON_FATHER = 2;
    private static final int PERSON_MOTHER = 3;
    private static final int PERSON_AT = 4;
    private static final int PERSON_GOING = 5;
    private static final int PERSON_COMES = 6;
    private static final int PERSON_COIN = 7;
    private static final int PERSON_MEN = 8;
    private static final int PERSON_DEAD = 9;
    private static final int PERSON_KNOWN = 10;
    private static final int PERSON_STEPS = 11;
    private static final int PERSON_PRICE = 12;
    private static final int PERSON_SEATED = 13;
    private static final int PERSON_WIDTH = 14;

    /* The columns of a POWER. */
    private static final int POWER_KIND = 0;
    private static final int POWER_WORTH = 1;
    private static final int POWER_HOLDER = 2;
    private static final int POWER_LENT = 3;
    private static final int POWER_TILL = 4;
    private static final int POWER_MARK = 5;
    private static final int POWER_WIDTH = 6;

    /* The KINDS of POWERS (POWER itself is 0), and for each the KIND under which it stands. */
    private static final int OFFICE = 1;
    private static final int SEAL = 2;
    private static final int GUARD = 3;
    private static final int MARCH = 4;
    private static final int CLAIM = 5;
    private static final int[] ABOVE = {-1, 0, 0, 1, 3, 0};

    /* The columns of a LAW, and the USES. */
    private static final int LAW_USE = 0;
    private static final int LAW_FROM = 1;
    private static final int LAW_MADE = 2;
    private static final int LAW_STRUCK = 3;
    private static final int LAW_LENGTH = 4;
    private static final int LAW_NAMES_DAY = 5;
    private static final int LAW_WIDTH = 6;
    private static final int USE_RULES = 0;
    private static final int USE_GOOD = 1;
    private static final int USE_FOLLOWS = 2;
    private static final int USE_AGE = 3;
    private static final int USE_STAYS = 4;

    /* The columns of a LETTER. */
    private static final int LETTER_DRAWER = 0;
    private static final int LETTER_SORT = 1;
    private static final int LETTER_WORTH = 2;
    private static final int LETTER_TOWN = 3;
    private static final int LETTER_MARKS = 4;
    private static final int LETTER_COULD = 5;
    private static final int LETTER_TO = 6;
    private static final int LETTER_TO_TOWN = 7;
    private static final int LETTER_THERE = 8;
    private static final int LETTER_OPENED = 9;
    private static final int LETTER_GOOD = 10;
    private static final int LETTER_OBEYED = 11;
    private static final int LETTER_WIDTH = 12;

    /* The columns of a DEBT. */
    private static final int DEBT_OWED = 0;
    private static final int DEBT_RATE = 1;
    private static final int DEBT_DUE = 2;
    private static final int DEBT_PLEDGE = 3;
    private static final int DEBT_MISSED = 4;
    private static final int DEBT_WIDTH = 5;

    /* The columns of a PROMISE, and how it may have ended. */
    private static final int PROMISE_PERSON = 0;
    private static final int PROMISE_CAUSE = 1;
    private static final int PROMISE_TILL = 2;
    private static final int PROMISE_FOR = 3;
    private static final int PROMISE_END = 4;
    private static final int PROMISE_WIDTH = 5;
    private static final int STANDING = 0;
    private static final int LAPSED = 1;
    private static final int BROKEN = 2;

    private final Realm now;
    private final Laws laws;
    private final Council council;
    private final Letters letters;
    private final Lineage lineage;
    private final Gates gates;
    private final Planner planner;
    private final Voices voices;
    private final Sheets sheets;
    private final int[] findings;
    private Realm kept;
    private int images;

    public SealCouncil() {
        now = new Realm();
        laws = new Laws(now);
        council = new Council(now, laws);
        letters = new Letters(now, laws, council);
        lineage = new Lineage(now, laws);
        gates = new Gates(now);
        planner = new Planner(now);
        voices = new Voices();
        sheets = new Sheets();
        findings = new int[FINDINGS + 1];
    }

    /* ---- towns, persons */

    public int town() {
        return told(now.towns.isFull() ? FULL : now.addTown());
    }

    public int road(int a, int b, int days) {
        if (!now.towns.has(a) || !now.towns.has(b) || a == b || isOutside(days, 1, 9)) {
            return told(BEYOND);
        }
        return told(now.roads >= MOST_ROADS ? FULL : now.join(a, b, days));
    }

    public int far(int a, int b) {
        if (!now.towns.has(a) || !now.towns.has(b)) {
            return told(BEYOND);
        }
        return told(now.wayBetween(a, b));
    }

    public int person(int sex, int born, int parents, int town) {
        int father = parents / 100 - 1;
        int mother = parents % 100 - 1;
        if (isOutside(sex, 0, 1) || isOutside(born, -20000, now.day) || parents < 0 || !now.towns.has(town)
                || !now.mayBeParent(father, 1, born) || !now.mayBeParent(mother, 0, born)) {
            return told(BEYOND);
        }
        return told(now.persons.isFull() ? FULL : now.addPerson(sex, born, father, mother, town));
    }

    public int die(int person) {
        if (!now.persons.has(person)) {
            return told(BEYOND);
        }
        if (!now.isLiving(person)) {
            return told(STATE);
        }
        council.unseat(person);
        return told(now.bury(person));
    }

    public int go(int person, int town) {
        if (!now.persons.has(person) || !now.towns.has(town)) {
            return told(BEYOND);
        }
        return told(now.isInTown(person) ? now.setOut(person, town) : STATE);
    }

    public int about(int person, int what) {
        if (!now.persons.has(person)) {
            return told(BEYOND);
        }
        switch (what) {
            case 0: return now.persons.get(person, PERSON_AT);
            case 1: return now.persons.get(person, PERSON_COIN);
            case 2: return now.persons.get(person, PERSON_MEN);
            case 3: return yearsBetween(now.persons.get(person, PERSON_BORN), now.day);
            case 4: return now.knownTo(person);
            case 5: return now.powers.rowsWith(POWER_HOLDER, person);
            case 6: return now.persons.get(person, PERSON_DEAD);
            case 7: return now.persons.get(person, PERSON_SEATED);
            case 8: return now.persons.get(person, PERSON_STEPS);
            case 9: return now.persons.get(person, PERSON_PRICE);
            default: return told(BEYOND);
        }
    }

    public int pay(int person, int n) {
        if (!now.persons.has(person) || isOutside(n, 1, 9999)) {
            return told(BEYOND);
        }
        return told(now.isLiving(person) ? now.payFromChest(person, n) : STATE);
    }

    public int men(int person, int n) {
        if (!now.persons.has(person) || isOutside(n, -99, 99)) {
            return told(BEYOND);
        }
        if (!now.isLiving(person)) {
            return told(STATE);
        }
        int men = now.persons.get(person, PERSON_MEN) + n;
        if (isOutside(men, 0, MOST_MEN)) {
            return told(BEYOND);
        }
        now.persons.set(person, PERSON_MEN, men);
        return men;
    }

    /* ---- powers */

    public int power(int kind, int holder, int worth) {
        if (isOutside(kind, 0, CLAIM) || !now.isLivingOrNobody(holder) || isOutside(worth, 0, 99)) {
            return told(BEYOND);
        }
        return told(now.powers.isFull() ? FULL : now.addPower(kind, holder, worth));
    }

    public int as(int power, int kind) {
        if (!now.powers.has(power) || isOutside(kind, 0, CLAIM)) {
            return told(BEYOND);
        }
        return told(now.isOfKind(power, kind) ? now.powers.get(power, POWER_WORTH) : KIND);
    }

    public int held(int power, int what) {
        if (!now.powers.has(power)) {
            return told(BEYOND);
        }
        switch (what) {
            case 0: return now.powers.get(power, POWER_KIND);
            case 1: return now.powers.get(power, POWER_HOLDER);
            case 2: return now.whoHas(power);
            case 3: return now.powers.get(power, POWER_MARK);
            case 4: return now.powers.get(power, POWER_TILL);
            default: return told(BEYOND);
        }
    }

    public int give(int power, int person) {
        if (!now.powers.has(power) || !now.isLivingOrNobody(person)) {
            return told(BEYOND);
        }
        return told(now.isLent(power) ? STATE : now.handOver(power, person));
    }

    public int lend(int power, int person, int till) {
        if (!now.powers.has(power) || !now.isLiving(person) || isOutside(till, now.day, LAST_DAY)) {
            return told(BEYOND);
        }
        if (!now.isOfKind(power, SEAL)) {
            return told(KIND);
        }
        int holder = now.powers.get(power, POWER_HOLDER);
        if (holder == NOBODY || holder == person || now.isLent(power)) {
            return told(STATE);
        }
        now.setLent(power, person, till);
        return 1;
    }

    public int copy(int power) {
        if (!now.powers.has(power)) {
            return told(BEYOND);
        }
        if (!now.isOfKind(power, SEAL)) {
            return told(KIND);
        }
        if (now.whoHas(power) == NOBODY) {
            return told(STATE);
        }
        return told(now.powers.isFull() ? FULL : now.addCopy(power));
    }

    /* ---- texts */

    public int feed(long word, int n) {
        if (isOutside(n, 1, 8)) {
            return told(BEYOND);
        }
        if (now.tape.used() + n > TAPE_BYTES) {
            return told(FULL);
        }
        for (int i = 0; i < n; i++) {
            now.tape.append((int) (word >>> (8 * i)) & 255);
        }
        return now.tape.used();
    }

    public int law(int use, int from) {
        if (isOutside(use, 0, USE_STAYS) || isOutside(from, 0, LAST_DAY)) {
            return told(BEYOND);
        }
        return told(now.laws.isFull() ? FULL : laws.enact(use, from));
    }

    public int strike(int law) {
        if (!now.laws.has(law)) {
            return told(BEYOND);
        }
        if (laws.isStruck(law)) {
            return told(STATE);
        }
        laws.strikeOut(law);
        return 1;
    }

    public int force(int use, int day, int k) {
        if (isOutside(use, 0, USE_STAYS) || isOutside(day, 0, LAST_DAY) || isOutside(k, -1, LAST_DAY)) {
            return told(BEYOND);
        }
        int law = laws.inForce(use, day, k);
        return told(law < 0 ? NONE : law);
    }

    public int says(int law, int person, int letter) {
        boolean isPerson = person == NOBODY || now.persons.has(person);
        boolean isLetter = letter == -1 || now.letters.has(letter);
        if (!now.laws.has(law) || !isPerson || !isLetter) {
            return told(BEYOND);
        }
        return laws.comesTo(law, person, letter, now.day);
    }

    /* ---- letters */

    public int draw(int person, int sort, int worth) {
        if (!now.persons.has(person) || isOutside(sort, 0, 4) || isOutside(worth, 0, 999)) {
            return told(BEYOND);
        }
        if (!now.isInTown(person)) {
            return told(STATE);
        }
        return told(now.letters.isFull() ? FULL : letters.write(person, sort, worth));
    }

    public int press(int letter, int power) {
        if (!now.letters.has(letter) || !now.powers.has(power)) {
            return told(BEYOND);
        }
        return told(now.isOfKind(power, SEAL) ? letters.mark(letter, power) : KIND);
    }

    public int send(int letter, int person) {
        if (!now.letters.has(letter) || !now.persons.has(person)) {
            return told(BEYOND);
        }
        return told(letters.dispatch(letter, person));
    }

    public int open(int letter) {
        return told(now.letters.has(letter) ? letters.unfold(letter) : BEYOND);
    }

    public int obey(int letter) {
        return told(now.letters.has(letter) ? letters.carryOut(letter) : BEYOND);
    }

    public int letter(int letter, int what) {
        if (!now.letters.has(letter)) {
            return told(BEYOND);
        }
        switch (what) {
            case 0: return now.letters.get(letter, LETTER_DRAWER);
            case 1: return now.letters.get(letter, LETTER_SORT);
            case 2: return now.letters.get(letter, LETTER_WORTH);
            case 3: return now.letters.get(letter, LETTER_MARKS);
            case 4: return now.letters.get(letter, LETTER_TO);
            case 5: return now.letters.get(letter, LETTER_THERE);
            case 6: return now.letters.get(letter, LETTER_OPENED);
            case 7: return now.letters.get(letter, LETTER_GOOD);
            case 8: return now.letters.get(letter, LETTER_OBEYED);
            case 9: return now.letters.get(letter, LETTER_COULD);
            default: return told(BEYOND);
        }
    }

    /* ---- days, coin */

    public int days(int n) {
        if (isOutside(n, 1, 400) || now.day + n > LAST_DAY) {
            return told(BEYOND);
        }
        for (int i = 0; i < n; i++) {
            now.endDay();
        }
        return now.day;
    }

    public int rent(int town, int n) {
        if (!now.towns.has(town) || isOutside(n, 0, 999)) {
            return told(BEYOND);
        }
        return now.towns.swap(town, TOWN_RENT, n);
    }

    public int own(int town, int person) {
        if (!now.towns.has(town) || !now.isLivingOrNobody(person)) {
            return told(BEYOND);
        }
        if (now.towns.get(town, TOWN_FORFEIT) != 0) {
            return told(STATE);
        }
        return now.towns.swap(town, TOWN_OWNER, person);
    }

    public int rents(int sheet, int bits) {
        if (!sheets.has(sheet) || !sheets.isWidth(bits)) {
            return told(BEYOND);
        }
        if (sheets.isMissing(sheet)) {
            return told(NONE);
        }
        if (sheets.bitsOf(sheet) != bits) {
            return told(KIND);
        }
        int n = sheets.sizeOf(sheet);
        if (n > now.towns.used()) {
            return told(STATE);
        }
        return told(sheets.areAllWithin(sheet, -1, 999) ? takeRents(sheet, n) : BEYOND);
    }

    public int debt(int owed, int terms, int pledge) {
        int rate = terms / 10000;
        int due = terms % 10000;
        if (isOutside(owed, 0, 99999) || isOutside(rate, 0, 99) || due < 1 || !now.towns.has(pledge)) {
            return told(BEYOND);
        }
        return told(now.debts.isFull() ? FULL : now.addDebt(owed, rate, due, pledge));
    }

    public int owed(int debt, int what) {
        if (!now.debts.has(debt)) {
            return told(BEYOND);
        }
        int pledge = now.debts.get(debt, DEBT_PLEDGE);
        switch (what) {
            case 0: return now.debts.get(debt, DEBT_OWED);
            case 1: return now.debts.get(debt, DEBT_MISSED);
            case 2: return now.towns.get(pledge, TOWN_FORFEIT);
            case 3: return now.debts.rowsWith(DEBT_PLEDGE, pledge);
            default: return told(BEYOND);
        }
    }

    /* ---- council */

    public int seat(int person, boolean is) {
        if (!now.persons.has(person)) {
            return told(BEYOND);
        }
        boolean seated = now.persons.get(person, PERSON_SEATED) != 0;
        if (!now.isLiving(person) || seated == is) {
            return told(STATE);
        }
        if (is && now.persons.rowsWith(PERSON_SEATED, 1) >= MOST_SEATED) {
            return told(FULL);
        }
        if (is) {
            now.persons.set(person, PERSON_SEATED, 1);
        } else {
            council.unseat(person);
        }
        return now.persons.rowsWith(PERSON_SEATED, 1);
    }

    public int promise(int person, int cause, int till, boolean is) {
        if (!now.persons.has(person) || isOutside(cause, 0, CAUSES - 1) || isOutside(till, now.day, LAST_DAY)) {
            return told(BEYOND);
        }
        if (now.persons.get(person, PERSON_SEATED) == 0) {
            return told(STATE);
        }
        return told(now.promises.isFull() ? FULL : council.addPromise(person, cause, till, is));
    }

    public int breaks(int promise) {
        if (!now.promises.has(promise)) {
            return told(BEYOND);
        }
        if (!council.stands(promise)) {
            return told(STATE);
        }
        now.promises.set(promise, PROMISE_END, BROKEN);
        return 1;
    }

    public int cause(int cause, int what) {
        if (isOutside(cause, 0, CAUSES - 1) || isOutside(what, 0, 3)) {
            return told(BEYOND);
        }
        if (what == 3) {
            return council.firstBroken(cause);
        }
        council.weigh(cause);
        switch (what) {
            case 0: return council.weightFor;
            case 1: return council.weightOfAll;
            default: return council.isCarriedWith(0) ? 1 : 0;
        }
    }

    public int price(int person, int v) {
        if (!now.persons.has(person) || isOutside(v, 1, 999)) {
            return told(BEYOND);
        }
        return now.persons.swap(person, PERSON_PRICE, v);
    }

    public int buying(int cause, int what) {
        if (isOutside(cause, 0, CAUSES - 1) || isOutside(what, 0, 1)) {
            return told(BEYOND);
        }
        if (!council.findCheapest(cause)) {
            return told(NONE);
        }
        return what == 0 ? council.cheapestPrice : council.cheapestSet;
    }

    /* ---- a night, who follows, of age, a plan */

    public int guard(int gate, int n) {
        if (isOutside(gate, 0, GATES - 1) || isOutside(n, 0, MOST_GUARDS)) {
            return told(BEYOND);
        }
        return now.guards.swap(gate, 0, n);
    }

    public int night(int men, int hours, int gate, int what) {
        if (isOutside(men, 1, 20) || isOutside(hours, 1, 3) || isOutside(gate, 0, GATES - 1)
                || isOutside(what, 0, 1)) {
            return told(BEYOND);
        }
        gates.prepare(gate);
        if (what == 0) {
            return gates.winsWithin(hours, 0, men) ? 1 : 0;
        }
        if (gates.winsByTaking(hours, 0, men)) {
            return 0;
        }
        return told(gates.winsByWaiting(hours, 0, men) ? -1 : NONE);
    }

    public int heir(int i) {
        return told(i < 0 ? BEYOND : lineage.follower(i));
    }

    public int age() {
        return told(lineage.dayOfAge());
    }

    public int after(int power) {
        return told(now.powers.has(power) ? lineage.fateOf(power) : BEYOND);
    }

    public int plan(int sheet, int what) {
        if (!sheets.has(sheet)) {
            return told(BEYOND);
        }
        if (sheets.isMissing(sheet)) {
            return told(NONE);
        }
        int n = sheets.sizeOf(sheet);
        if (isOutside(n, 1, 8) || !sheets.areAllWithin(sheet, 0, 9999) || isOutside(what, -1, n - 1)) {
            return told(BEYOND);
        }
        planner.begin();
        for (int i = 0; i < n; i++) {
            planner.passQuarter(sheets.numberAt(sheet, i));
        }
        if (!planner.findBest()) {
            return told(STATE);
        }
        return what < 0 ? planner.bestLeaves : planner.pledgedIn(what, n);
    }

    /* ---- voices, sheets, images, what is told */

    public int voice(int power, int act, int x) {
        if (!now.powers.has(power) || isOutside(act, 0, 3)) {
            return told(BEYOND);
        }
        voices.begin(now.powers.get(power, POWER_KIND), power, now.powers.get(power, POWER_WORTH));
        return voices.speak(act, x);
    }

    public int trace(int i) {
        return told(i >= 0 && i < voices.traced ? voices.bodyAt(i) : NONE);
    }

    public int sheet(int sheet, int bits, int n) {
        if (!sheets.has(sheet) || bits != 0 && !sheets.isWidth(bits)) {
            return told(BEYOND);
        }
        if (bits != 0 && n < 0) {
            return told(STATE);
        }
        if (bits != 0 && n > SHEET_NUMBERS) {
            return told(BEYOND);
        }
        sheets.layOut(sheet, bits, bits == 0 ? 0 : n);
        return 1;
    }

    public int put(int sheet, int i, int v) {
        if (!sheets.has(sheet)) {
            return told(BEYOND);
        }
        if (sheets.isMissing(sheet)) {
            return told(NONE);
        }
        if (i < 0 || i >= sheets.sizeOf(sheet)) {
            return told(BEYOND);
        }
        sheets.setNumber(sheet, i, v);
        return 1;
    }

    public int move(int sheet, int i, int other, int j, int n) {
        if (!sheets.has(sheet) || !sheets.has(other)) {
            return told(BEYOND);
        }
        if (sheets.isMissing(sheet) || sheets.isMissing(other)) {
            return told(NONE);
        }
        if (sheets.bitsOf(sheet) != sheets.bitsOf(other)) {
            return told(KIND);
        }
        if (!sheets.stand(sheet, i, n) || !sheets.stand(other, j, n)) {
            return told(BEYOND);
        }
        sheets.transfer(sheet, i, other, j, n);
        return n;
    }

    public int image() {
        if (kept == null) {
            kept = new Realm();
        }
        kept.takeFrom(now);
        images++;
        return images;
    }

    public int restore() {
        if (kept == null) {
            return told(NONE);
        }
        now.takeFrom(kept);
        return now.day;
    }

    public int tell(int v) {
        if (now.waiting.isFull()) {
            return told(FULL);
        }
        now.waiting.append(v);
        return now.waiting.used();
    }

    public int check() {
        int n = now.waiting.used();
        int wrong = 0;
        for (int i = 0; i < n && wrong == 0; i++) {
            if (!now.isCoinOf(i, now.waiting.get(i, 0))) {
                wrong = i + 1;
            }
        }
        now.waiting.clear();
        return wrong;
    }

    public int count(int what) {
        switch (what) {
            case 0: return now.towns.used();
            case 1: return now.roads;
            case 2: return now.persons.used();
            case 3: return now.powers.used();
            case 4: return now.laws.used();
            case 5: return now.letters.used();
            case 6: return now.debts.used();
            case 7: return now.promises.used();
            case 8: return now.day;
            case 9: return now.chest;
            case 10: return now.tape.used();
            case 11: return now.persons.rowsWith(PERSON_SEATED, 1);
            case 12: return voices.traced;
            case 13: return now.waiting.used();
            case 14: return now.persons.sumOf(PERSON_COIN);
            case 15: return letters.onTheirWay();
            default: return told(BEYOND);
        }
    }

    public int found(int k) {
        return k >= 1 && k <= FINDINGS && k < findings.length ? findings[k] : told(BEYOND);
    }

    /** Hands an answer on; one that is a finding is counted for found(). */
    private int told(int answer) {
        long k = (long) LOW - answer;
        if (k >= 1 && k <= FINDINGS && k < findings.length) {
            findings[(int) k]++;
        }
        return answer;
    }

    private int takeRents(int sheet, int n) {
        int told = 0;
        for (int i = 0; i < n; i++) {
            int rent = sheets.numberAt(sheet, i);
            if (rent >= 0) {
                now.towns.set(i, TOWN_RENT, rent);
                told++;
            }
        }
        return told;
    }

    private static boolean isOutside(int v, int least, int most) {
        return v < least || v > most;
    }

    private static int yearsBetween(int born, int day) {
        return (day - born) / YEAR_DAYS;
    }

    /**
     * Rows of numbers, all of one width. It looks at every index itself, so that no other class
     * can make the machine throw: beyond its edges it reads as 0 and keeps nothing.
     */
    private static final class Table {
        private final int rows;
        private final int width;
        private final int[] cells;
        private int used;

        Table(int rows, int width) {
            this.rows = Math.max(0, Math.min(rows, 100));
            this.width = Math.max(1, Math.min(width, 100));
            cells = new int[this.rows * this.width];
        }

        int used() {
            return used;
        }

        boolean has(int row) {
            return row >= 0 && row < used;
        }

        boolean isFull() {
            return used >= rows;
        }

        int get(int row, int column) {
            if (row < 0 || row >= rows || column < 0 || column >= width) {
                return 0;
            }
            return cells[row * width + column];
        }

        void set(int row, int column, int v) {
            if (row >= 0 && row < rows && column >= 0 && column < width) {
                cells[row * width + column] = v;
            }
        }

        void add(int row, int column, int more) {
            set(row, column, get(row, column) + more);
        }

        int swap(int row, int column, int v) {
            int was = get(row, column);
            set(row, column, v);
            return was;
        }

        /** One more row in use, its first column v and all others 0: its number. */
        int append(int v) {
            if (isFull()) {
                return -1;
            }
            int row = used;
            used++;
            for (int column = 1; column < width; column++) {
                set(row, column, 0);
            }
            set(row, 0, v);
            return row;
        }

        void clear() {
            used = 0;
        }

        void fill(int v) {
            Arrays.fill(cells, v);
        }

        int rowsWith(int column, int v) {
            int n = 0;
            for (int row = 0; row < used && column >= 0 && column < width; row++) {
                if (cells[row * width + column] == v) {
                    n++;
                }
            }
            return n;
        }

        int sumOf(int column) {
            int sum = 0;
            for (int row = 0; row < used; row++) {
                sum += get(row, column);
            }
            return sum;
        }

        void takeFrom(Table other) {
            used = Math.min(other.used, rows);
            System.arraycopy(other.cells, 0, cells, 0, Math.min(cells.length, other.cells.length));
        }

        /** n numbers of one row, from a column on, to another row; as they all were. */
        void transfer(int row, int from, int otherRow, int to, int n) {
            boolean fromStands = row >= 0 && row < rows && from >= 0 && n >= 0 && from <= width - n;
            boolean toStands = otherRow >= 0 && otherRow < rows && to >= 0 && n >= 0 && to <= width - n;
            if (fromStands && toStands) {
                System.arraycopy(cells, row * width + from, cells, otherRow * width + to, n);
            }
        }
    }

    /** All that an IMAGE keeps, and what it takes to pass days over it. */
    private static final class Realm {
        private final Table towns = new Table(MOST_TOWNS, TOWN_WIDTH);
        private final Table ways = new Table(MOST_TOWNS, MOST_TOWNS);
        private final Table persons = new Table(MOST_PERSONS, PERSON_WIDTH);
        private final Table powers = new Table(MOST_POWERS, POWER_WIDTH);
        private final Table laws = new Table(MOST_LAWS, LAW_WIDTH);
        private final Table codes = new Table(MOST_LAWS, TAPE_BYTES);
        private final Table letters = new Table(MOST_LETTERS, LETTER_WIDTH);
        private final Table debts = new Table(MOST_DEBTS, DEBT_WIDTH);
        private final Table promises = new Table(MOST_PROMISES, PROMISE_WIDTH);
        private final Table guards = new Table(GATES, 1);
        private final Table waiting = new Table(MOST_WAITING, 1);
        private final Table tape = new Table(TAPE_BYTES, 1);
        private int roads;
        private int day;
        private int chest;

        Realm() {
            chest = 1000;
            ways.fill(NO_WAY);
            for (int t = 0; t < MOST_TOWNS; t++) {
                ways.set(t, t, 0);
            }
        }

        void takeFrom(Realm other) {
            towns.takeFrom(other.towns);
            ways.takeFrom(other.ways);
            persons.takeFrom(other.persons);
            powers.takeFrom(other.powers);
            laws.takeFrom(other.laws);
            codes.takeFrom(other.codes);
            letters.takeFrom(other.letters);
            debts.takeFrom(other.debts);
            promises.takeFrom(other.promises);
            guards.takeFrom(other.guards);
            waiting.takeFrom(other.waiting);
            tape.takeFrom(other.tape);
            roads = other.roads;
            day = other.day;
            chest = other.chest;
        }

        int addTown() {
            int t = towns.append(0);
            towns.set(t, TOWN_OWNER, NOBODY);
            return t;
        }

        /** Every way that is shorter over the new ROAD becomes so. */
        int join(int a, int b, int days) {
            int n = towns.used();
            for (int i = 0; i < n; i++) {
                for (int j = 0; j < n; j++) {
                    int thisWay = ways.get(i, a) + days + ways.get(b, j);
                    int thatWay = ways.get(i, b) + days + ways.get(a, j);
                    ways.set(i, j, Math.min(ways.get(i, j), Math.min(thisWay, thatWay)));
                }
            }
            roads++;
            return roads;
        }

        int wayBetween(int a, int b) {
            int way = ways.get(a, b);
            return way >= NO_WAY ? NONE : way;
        }

        boolean mayBeParent(int p, int sex, int born) {
            return p == NOBODY
                    || persons.has(p) && persons.get(p, PERSON_SEX) == sex && persons.get(p, PERSON_BORN) < born;
        }

        int addPerson(int sex, int born, int father, int mother, int town) {
            int p = persons.append(sex);
            persons.set(p, PERSON_BORN, born);
            persons.set(p, PERSON_FATHER, father);
            persons.set(p, PERSON_MOTHER, mother);
            persons.set(p, PERSON_AT, town);
            persons.set(p, PERSON_KNOWN, -1);
            persons.set(p, PERSON_STEPS, p == CHILD ? 0 : NO_BLOOD);
            persons.set(p, PERSON_PRICE, 1);
            findSteps();
            return p;
        }

        /** A new PERSON only ever brings others nearer; a chain of n PERSONS is passed on in n rounds. */
        private void findSteps() {
            int n = persons.used();
            for (int round = 0; round < n; round++) {
                for (int p = 0; p < n; p++) {
                    bringNearer(p, persons.get(p, PERSON_FATHER));
                    bringNearer(p, persons.get(p, PERSON_MOTHER));
                }
            }
        }

        private void bringNearer(int p, int parent) {
            if (parent != NOBODY) {
                int steps = persons.get(p, PERSON_STEPS);
                int theirs = persons.get(parent, PERSON_STEPS);
                persons.set(p, PERSON_STEPS, Math.min(steps, theirs + 1));
                persons.set(parent, PERSON_STEPS, Math.min(theirs, steps + 1));
            }
        }

        boolean isLiving(int p) {
            return persons.has(p) && persons.get(p, PERSON_DEAD) == 0;
        }

        boolean isLivingOrNobody(int p) {
            return p == NOBODY || isLiving(p);
        }

        /** Living, and not on the road. */
        boolean isInTown(int p) {
            return isLiving(p) && persons.get(p, PERSON_AT) >= 0;
        }

        int livingIn(int town) {
            int set = 0;
            int n = persons.used();
            for (int p = 0; p < n; p++) {
                if (isLiving(p) && persons.get(p, PERSON_AT) == town) {
                    set |= 1 << p;
                }
            }
            return set;
        }

        /**
         * While a PERSON stays in a TOWN, days grow and ways shorten only: what it knows now is
         * the most that it knew there, so nothing need be kept until it leaves or dies.
         */
        int knownTo(int p) {
            int was = persons.get(p, PERSON_KNOWN);
            int town = persons.get(p, PERSON_AT);
            if (town < 0 || persons.get(p, PERSON_DEAD) != 0) {
                return was;
            }
            int way = ways.get(COURT, town);
            return way >= NO_WAY ? was : Math.max(was, day - way);
        }

        int setOut(int p, int town) {
            int way = wayBetween(persons.get(p, PERSON_AT), town);
            if (way < 0) {
                return NONE;
            }
            if (way > 0) {
                persons.set(p, PERSON_KNOWN, knownTo(p));
                persons.set(p, PERSON_AT, -1);
                persons.set(p, PERSON_GOING, town);
                persons.set(p, PERSON_COMES, day + way);
            }
            return day + way;
        }

        int bury(int p) {
            int coin = persons.swap(p, PERSON_COIN, 0);
            chest += coin;
            persons.set(p, PERSON_MEN, 0);
            persons.set(p, PERSON_KNOWN, knownTo(p));
            persons.set(p, PERSON_DEAD, 1);
            int n = powers.used();
            for (int i = 0; i < n; i++) {
                if (powers.get(i, POWER_HOLDER) == p) {
                    handOver(i, NOBODY);
                } else if (powers.get(i, POWER_LENT) == p) {
                    setLent(i, NOBODY, -1);
                }
            }
            return coin;
        }

        int payFromChest(int p, int n) {
            if (chest < n) {
                return NONE;
            }
            chest -= n;
            persons.add(p, PERSON_COIN, n);
            return chest;
        }

        /** Is v the COIN of PERSON i, or of THE CHEST, which stands behind all PERSONS? */
        boolean isCoinOf(int i, int v) {
            if (persons.has(i)) {
                return persons.get(i, PERSON_COIN) == v;
            }
            return i == persons.used() && chest == v;
        }

        int addPower(int kind, int holder, int worth) {
            int i = powers.append(kind);
            powers.set(i, POWER_WORTH, worth);
            powers.set(i, POWER_HOLDER, holder);
            powers.set(i, POWER_MARK, kind == SEAL ? i : -1);
            setLent(i, NOBODY, -1);
            return i;
        }

        int addCopy(int seal) {
            int i = addPower(SEAL, whoHas(seal), 0);
            powers.set(i, POWER_MARK, powers.get(seal, POWER_MARK));
            return i;
        }

        boolean isOfKind(int power, int wanted) {
            int kind = powers.get(power, POWER_KIND);
            for (int i = 0; i < ABOVE.length && kind >= 0 && kind < ABOVE.length; i++) {
                if (kind == wanted) {
                    return true;
                }
                kind = ABOVE[kind];
            }
            return false;
        }

        boolean isLent(int power) {
            return powers.get(power, POWER_LENT) != NOBODY;
        }

        int whoHas(int power) {
            return isLent(power) ? powers.get(power, POWER_LENT) : powers.get(power, POWER_HOLDER);
        }

        void setLent(int power, int person, int till) {
            powers.set(power, POWER_LENT, person);
            powers.set(power, POWER_TILL, till);
        }

        /** A new HOLDER has the POWER itself: it is LENT no more. */
        int handOver(int power, int person) {
            setLent(power, NOBODY, -1);
            return powers.swap(power, POWER_HOLDER, person);
        }

        int addDebt(int owed, int rate, int due, int pledge) {
            int i = debts.append(owed);
            debts.set(i, DEBT_RATE, rate);
            debts.set(i, DEBT_DUE, due);
            debts.set(i, DEBT_PLEDGE, pledge);
            chest += owed;
            return i;
        }

        void endDay() {
            day++;
            bringTravellers();
            takeBackLent();
            if (day % QUARTER_DAYS == 0) {
                collectRents();
                payMen();
                serveDebts();
            }
        }

        private void bringTravellers() {
            int n = persons.used();
            for (int p = 0; p < n; p++) {
                if (persons.get(p, PERSON_AT) < 0 && persons.get(p, PERSON_COMES) <= day) {
                    persons.set(p, PERSON_AT, persons.get(p, PERSON_GOING));
                }
            }
        }

        private void takeBackLent() {
            int n = powers.used();
            for (int i = 0; i < n; i++) {
                if (isLent(i) && powers.get(i, POWER_TILL) < day) {
                    setLent(i, NOBODY, -1);
                }
            }
        }

        private void collectRents() {
            int n = towns.used();
            for (int t = 0; t < n; t++) {
                int rent = towns.get(t, TOWN_RENT);
                int owner = towns.get(t, TOWN_OWNER);
                if (towns.get(t, TOWN_FORFEIT) != 0) {
                    continue;
                }
                if (isLiving(owner)) {
                    persons.add(owner, PERSON_COIN, rent);
                } else {
                    chest += rent;
                }
            }
        }

        private void payMen() {
            int n = persons.used();
            for (int p = 0; p < n; p++) {
                int paid = Math.min(persons.get(p, PERSON_MEN), persons.get(p, PERSON_COIN));
                persons.add(p, PERSON_COIN, -paid);
                persons.set(p, PERSON_MEN, paid);
            }
        }

        private void serveDebts() {
            int n = debts.used();
            for (int i = 0; i < n; i++) {
                int was = debts.get(i, DEBT_OWED);
                int owed = Math.min(MOST_OWED, was + was * debts.get(i, DEBT_RATE) / 100);
                int due = Math.min(owed, debts.get(i, DEBT_DUE));
                if (chest >= due) {
                    chest -= due;
                    debts.set(i, DEBT_OWED, owed - due);
                } else {
                    debts.set(i, DEBT_OWED, owed);
                    missOnce(i);
                }
            }
        }

        private void missOnce(int debt) {
            debts.add(debt, DEBT_MISSED, 1);
            if (debts.get(debt, DEBT_MISSED) >= 2) {
                towns.set(debts.get(debt, DEBT_PLEDGE), TOWN_FORFEIT, 1);
            }
        }
    }

    /**
     * Reads a TEXT from THE TAPE into steps for a stack: a number from 0 on stands for itself,
     * others for what the constants tell. `open` counts the ! and ( that are open.
     */
    private static final class Reader {
        private static final String NAMES = "askcmtbyowd";
        private static final int FIRST_NAME = -20;
        private static final int DAY_NAME = -30;
        private static final int NOT = -1;
        private static final int OR = -2;
        private static final int AND = -3;
        private static final int LESS = -4;
        private static final int SAME = -5;
        private static final int MORE = -6;
        private static final int PLUS = -7;
        private static final int MINUS = -8;
        private static final int MOST_OPEN = 5;
        private static final int MOST_DIGITS = 4;

        private final Table tape;
        private final Table steps;
        private int at;
        private int fault;

        Reader(Table tape) {
            this.tape = tape;
            steps = new Table(TAPE_BYTES, 1);
        }

        /** The FAULT of what is on THE TAPE; -1: it is a TEXT. */
        int readTape() {
            steps.clear();
            at = 0;
            fault = -1;
            readText(0);
            if (at < tape.used()) {
                fail();
            }
            return fault;
        }

        private void readText(int open) {
            readConjunction(open);
            for (int i = 0; i < TAPE_BYTES && next() == '|'; i++) {
                at++;
                readConjunction(open);
                steps.append(OR);
            }
        }

        private void readConjunction(int open) {
            readComparison(open);
            for (int i = 0; i < TAPE_BYTES && next() == '&'; i++) {
                at++;
                readComparison(open);
                steps.append(AND);
            }
        }

        private void readComparison(int open) {
            readSum(open);
            int sign = next();
            if (sign == '<' || sign == '=' || sign == '>') {
                at++;
                readSum(open);
                steps.append(sign == '<' ? LESS : sign == '=' ? SAME : MORE);
            }
        }

        private void readSum(int open) {
            readPart(open);
            for (int i = 0; i < TAPE_BYTES && (next() == '+' || next() == '-'); i++) {
                int step = next() == '+' ? PLUS : MINUS;
                at++;
                readPart(open);
                steps.append(step);
            }
        }

        private void readPart(int open) {
            int sign = next();
            int name = sign < 0 ? -1 : NAMES.indexOf((char) sign);
            if (isDigit(sign)) {
                readNumber();
            } else if (name >= 0) {
                at++;
                steps.append(FIRST_NAME - name);
            } else if (sign == '!' && open < MOST_OPEN) {
                at++;
                readPart(open + 1);
                steps.append(NOT);
            } else if (sign == '(' && open < MOST_OPEN) {
                at++;
                readText(open + 1);
                readClosing();
            } else {
                fail();
            }
        }

        private void readClosing() {
            if (next() == ')') {
                at++;
            } else {
                fail();
            }
        }

        private void readNumber() {
            int v = 0;
            for (int i = 0; i < MOST_DIGITS && isDigit(next()); i++) {
                v = v * 10 + next() - '0';
                at++;
            }
            steps.append(v);
        }

        /** The byte that is read next; -1 at the end, and behind a FAULT, where all reading ends. */
        private int next() {
            return fault < 0 && at < tape.used() ? tape.get(at, 0) : -1;
        }

        private void fail() {
            if (fault < 0) {
                fault = at;
            }
        }

        private static boolean isDigit(int sign) {
            return sign >= '0' && sign <= '9';
        }
    }

    /** LAWS: which is in force, and what it comes to. */
    private static final class Laws {
        private final Realm realm;
        private final Reader reader;
        private final int[] stack;
        private int top;

        Laws(Realm realm) {
            this.realm = realm;
            reader = new Reader(realm.tape);
            stack = new int[TAPE_BYTES];
        }

        int enact(int use, int from) {
            int fault = reader.readTape();
            realm.tape.clear();
            if (fault >= 0) {
                return -10 - fault;
            }
            int law = realm.laws.append(use);
            int n = reader.steps.used();
            realm.laws.set(law, LAW_FROM, from);
            realm.laws.set(law, LAW_MADE, realm.day);
            realm.laws.set(law, LAW_STRUCK, -1);
            realm.laws.set(law, LAW_LENGTH, n);
            for (int i = 0; i < n; i++) {
                realm.codes.set(law, i, reader.steps.get(i, 0));
            }
            realm.laws.set(law, LAW_NAMES_DAY, reader.steps.rowsWith(0, Reader.DAY_NAME));
            return law;
        }

        boolean namesDay(int law) {
            return realm.laws.get(law, LAW_NAMES_DAY) != 0;
        }

        /** The next day behind one from which on a LAW of a USE is; behind the LAST_DAY if there is none. */
        int nextBeginning(int use, int day) {
            int next = LAST_DAY + 1;
            int n = realm.laws.used();
            for (int law = 0; law < n; law++) {
                int from = realm.laws.get(law, LAW_FROM);
                if (from > day && realm.laws.get(law, LAW_USE) == use) {
                    next = Math.min(next, from);
                }
            }
            return next;
        }

        boolean isStruck(int law) {
            return realm.laws.get(law, LAW_STRUCK) >= 0;
        }

        void strikeOut(int law) {
            realm.laws.set(law, LAW_STRUCK, realm.day);
        }

        /** LAWS are numbered as they are MADE, so the greatest number is the one MADE last; -1: none. */
        int inForce(int use, int day, int k) {
            for (int law = realm.laws.used() - 1; law >= 0; law--) {
                int struck = realm.laws.get(law, LAW_STRUCK);
                if (realm.laws.get(law, LAW_USE) == use && realm.laws.get(law, LAW_MADE) <= k
                        && (struck < 0 || struck > k) && realm.laws.get(law, LAW_FROM) <= day) {
                    return law;
                }
            }
            return -1;
        }

        /** What the LAW in force on a day, as known on day k, comes to; 1 without one. */
        int ruling(int use, int day, int k, int person, int letter) {
            int law = inForce(use, day, k);
            return law < 0 ? 1 : comesTo(law, person, letter, day);
        }

        int comesTo(int law, int person, int letter, int day) {
            int n = realm.laws.get(law, LAW_LENGTH);
            top = 0;
            for (int i = 0; i < n; i++) {
                int step = realm.codes.get(law, i);
                if (step >= 0) {
                    push(step);
                } else if (step <= Reader.FIRST_NAME) {
                    push(named(Reader.FIRST_NAME - step, person, letter, day));
                } else if (step == Reader.NOT) {
                    push(pop() == 0 ? 1 : 0);
                } else {
                    int right = pop();
                    push(joined(step, pop(), right));
                }
            }
            return pop();
        }

        private void push(int v) {
            if (top >= 0 && top < stack.length) {
                stack[top] = v;
                top++;
            }
        }

        private int pop() {
            if (top < 1 || top > stack.length) {
                return 0;
            }
            top--;
            return stack[top];
        }

        private static int joined(int step, int left, int right) {
            switch (step) {
                case Reader.OR: return left != 0 || right != 0 ? 1 : 0;
                case Reader.AND: return left != 0 && right != 0 ? 1 : 0;
                case Reader.LESS: return left < right ? 1 : 0;
                case Reader.SAME: return left == right ? 1 : 0;
                case Reader.MORE: return left > right ? 1 : 0;
                case Reader.PLUS: return left + right;
                default: return left - right;
            }
        }

        /** The NAMES by their places in Reader.NAMES: 0 to 6 of a PERSON, 7 to 9 of a LETTER. */
        private int named(int name, int person, int letter, int day) {
            boolean without = name <= 6 ? person < 0 : name <= 9 && letter < 0;
            if (without) {
                return 0;
            }
            switch (name) {
                case 0: return yearsBetween(realm.persons.get(person, PERSON_BORN), day);
                case 1: return realm.persons.get(person, PERSON_SEX);
                case 2: return realm.powers.rowsWith(POWER_HOLDER, person);
                case 3: return realm.persons.get(person, PERSON_COIN);
                case 4: return realm.persons.get(person, PERSON_MEN);
                case 5: return placeNamed(realm.persons.get(person, PERSON_AT));
                case 6: return realm.persons.get(person, PERSON_STEPS);
                case 7: return Integer.bitCount(realm.letters.get(letter, LETTER_MARKS));
                case 8: return realm.letters.get(letter, LETTER_SORT);
                case 9: return realm.letters.get(letter, LETTER_WORTH);
                default: return day;
            }
        }

        private static int placeNamed(int town) {
            return town < 0 ? 10 : town;
        }
    }

    /** LETTERS, from the one who draws them to the one who obeys. */
    private static final class Letters {
        private final Realm realm;
        private final Laws laws;
        private final Council council;
        private final Table rows;

        Letters(Realm realm, Laws laws, Council council) {
            this.realm = realm;
            this.laws = laws;
            this.council = council;
            rows = realm.letters;
        }

        int write(int person, int sort, int worth) {
            int town = realm.persons.get(person, PERSON_AT);
            int letter = rows.append(person);
            rows.set(letter, LETTER_SORT, sort);
            rows.set(letter, LETTER_WORTH, worth);
            rows.set(letter, LETTER_TOWN, town);
            rows.set(letter, LETTER_COULD, realm.livingIn(town));
            rows.set(letter, LETTER_TO, NOBODY);
            rows.set(letter, LETTER_THERE, -1);
            rows.set(letter, LETTER_OPENED, -1);
            rows.set(letter, LETTER_GOOD, -1);
            return letter;
        }

        private boolean isSent(int letter) {
            return rows.get(letter, LETTER_TO) != NOBODY;
        }

        int mark(int letter, int seal) {
            int owner = realm.whoHas(seal);
            int town = rows.get(letter, LETTER_TOWN);
            if (isSent(letter) || !realm.isInTown(owner) || realm.persons.get(owner, PERSON_AT) != town) {
                return STATE;
            }
            int mark = realm.powers.get(seal, POWER_MARK);
            int marks = rows.get(letter, LETTER_MARKS);
            int hands = handsWith(mark) & realm.livingIn(town);
            // Who only was there as it was DRAWN counts no more once it is PRESSED.
            rows.set(letter, LETTER_COULD, marks == 0 ? hands : rows.get(letter, LETTER_COULD) & hands);
            rows.set(letter, LETTER_MARKS, marks | 1 << mark);
            return Integer.bitCount(rows.get(letter, LETTER_MARKS));
        }

        private int handsWith(int mark) {
            int set = 0;
            int n = realm.powers.used();
            for (int i = 0; i < n; i++) {
                int person = realm.whoHas(i);
                if (person >= 0 && realm.powers.get(i, POWER_MARK) == mark) {
                    set |= 1 << person;
                }
            }
            return set;
        }

        int dispatch(int letter, int person) {
            if (isSent(letter) || !realm.isInTown(person)) {
                return STATE;
            }
            int town = realm.persons.get(person, PERSON_AT);
            int way = realm.wayBetween(rows.get(letter, LETTER_TOWN), town);
            if (way < 0) {
                return NONE;
            }
            rows.set(letter, LETTER_TO, person);
            rows.set(letter, LETTER_TO_TOWN, town);
            rows.set(letter, LETTER_THERE, realm.day + way);
            return realm.day + way;
        }

        int unfold(int letter) {
            int person = rows.get(letter, LETTER_TO);
            boolean isThere = isSent(letter) && rows.get(letter, LETTER_THERE) <= realm.day;
            if (!isThere || rows.get(letter, LETTER_OPENED) >= 0 || !realm.isInTown(person)
                    || realm.persons.get(person, PERSON_AT) != rows.get(letter, LETTER_TO_TOWN)) {
                return STATE;
            }
            int good = laws.ruling(USE_GOOD, realm.day, realm.knownTo(person), person, letter) != 0 ? 1 : 0;
            rows.set(letter, LETTER_OPENED, realm.day);
            rows.set(letter, LETTER_GOOD, good);
            return good;
        }

        int carryOut(int letter) {
            int person = rows.get(letter, LETTER_TO);
            if (rows.get(letter, LETTER_OPENED) < 0 || rows.get(letter, LETTER_OBEYED) != 0
                    || !realm.isLiving(person)) {
                return STATE;
            }
            if (rows.get(letter, LETTER_GOOD) != 1) {
                return KIND;
            }
            int answer = carryOutSort(rows.get(letter, LETTER_SORT), rows.get(letter, LETTER_WORTH), person);
            if (answer != NONE) {
                rows.set(letter, LETTER_OBEYED, 1);
            }
            return answer;
        }

        private int carryOutSort(int sort, int worth, int person) {
            switch (sort) {
                case 0: return realm.payFromChest(person, worth);
                case 1: return sendAway(person, worth);
                case 2: return realm.powers.has(worth) ? realm.handOver(worth, person) : NONE;
                case 3: return strikeFor(worth);
                default: return council.breakAllOf(person);
            }
        }

        private int sendAway(int person, int worth) {
            int n = realm.towns.used();
            return n > 0 && realm.isInTown(person) ? realm.setOut(person, worth % n) : NONE;
        }

        private int strikeFor(int law) {
            if (!realm.laws.has(law) || laws.isStruck(law)) {
                return NONE;
            }
            laws.strikeOut(law);
            return 1;
        }

        int onTheirWay() {
            int found = 0;
            int n = rows.used();
            for (int letter = 0; letter < n; letter++) {
                if (isSent(letter) && rows.get(letter, LETTER_THERE) > realm.day) {
                    found++;
                }
            }
            return found;
        }
    }

    /** PROMISES, WEIGHTS and BUYING. What was weighed or found last stands in its fields. */
    private static final class Council {
        private static final int NO_PRICE = 1000000;

        private final Realm realm;
        private final Laws laws;
        private final Table rows;
        private final Table weights;
        private final Table buyable;
        private int weightFor;
        private int weightOfAll;
        private int cheapestPrice;
        private int cheapestSet;

        Council(Realm realm, Laws laws) {
            this.realm = realm;
            this.laws = laws;
            rows = realm.promises;
            weights = new Table(MOST_PERSONS, 1);
            buyable = new Table(MOST_SEATED, 1);
        }

        boolean stands(int promise) {
            return rows.get(promise, PROMISE_END) == STANDING && rows.get(promise, PROMISE_TILL) >= realm.day;
        }

        int addPromise(int person, int cause, int till, boolean is) {
            int n = rows.used();
            for (int i = 0; i < n; i++) {
                if (stands(i) && rows.get(i, PROMISE_PERSON) == person && rows.get(i, PROMISE_CAUSE) == cause) {
                    rows.set(i, PROMISE_END, LAPSED);
                }
            }
            int promise = rows.append(person);
            rows.set(promise, PROMISE_CAUSE, cause);
            rows.set(promise, PROMISE_TILL, till);
            rows.set(promise, PROMISE_FOR, is ? 1 : 0);
            rows.set(promise, PROMISE_END, STANDING);
            return promise;
        }

        /** Who sits down again later has not promised any more. */
        void unseat(int person) {
            realm.persons.set(person, PERSON_SEATED, 0);
            endAllOf(person, LAPSED);
        }

        int breakAllOf(int person) {
            return endAllOf(person, BROKEN);
        }

        private int endAllOf(int person, int end) {
            int ended = 0;
            int n = rows.used();
            for (int i = 0; i < n; i++) {
                if (stands(i) && rows.get(i, PROMISE_PERSON) == person) {
                    rows.set(i, PROMISE_END, end);
                    ended++;
                }
            }
            return ended;
        }

        int firstBroken(int cause) {
            int n = rows.used();
            for (int i = 0; i < n; i++) {
                if (rows.get(i, PROMISE_END) == BROKEN && rows.get(i, PROMISE_CAUSE) == cause
                        && rows.get(i, PROMISE_FOR) == 1) {
                    return i;
                }
            }
            return -1;
        }

        private boolean isPromisedFor(int person, int cause) {
            int n = rows.used();
            for (int i = 0; i < n; i++) {
                if (rows.get(i, PROMISE_PERSON) == person && rows.get(i, PROMISE_CAUSE) == cause
                        && rows.get(i, PROMISE_FOR) == 1 && stands(i)) {
                    return true;
                }
            }
            return false;
        }

        void weigh(int cause) {
            weightFor = 0;
            weightOfAll = 0;
            buyable.clear();
            int law = ruleInForce();
            int n = realm.persons.used();
            for (int p = 0; p < n; p++) {
                if (realm.persons.get(p, PERSON_SEATED) != 0) {
                    weighOne(p, cause, weightOf(p, law));
                }
            }
        }

        private void weighOne(int p, int cause, int weight) {
            weights.set(p, 0, weight);
            weightOfAll += weight;
            if (isPromisedFor(p, cause)) {
                weightFor += weight;
            } else {
                buyable.append(p);
            }
        }

        /** The law RULES as it is KNOWN to who is SEATED with the least number; -1: none. */
        private int ruleInForce() {
            int n = realm.persons.used();
            for (int p = 0; p < n; p++) {
                if (realm.persons.get(p, PERSON_SEATED) != 0) {
                    return laws.inForce(USE_RULES, realm.day, realm.knownTo(p));
                }
            }
            return -1;
        }

        private int weightOf(int p, int law) {
            if (law >= 0 && laws.comesTo(law, p, -1, realm.day) == 0) {
                return 0;
            }
            int weight = 1;
            int n = realm.powers.used();
            for (int i = 0; i < n; i++) {
                if (realm.powers.get(i, POWER_HOLDER) == p && realm.isOfKind(i, OFFICE)) {
                    weight++;
                }
            }
            return weight;
        }

        boolean isCarriedWith(int more) {
            return 2 * (weightFor + more) > weightOfAll;
        }

        boolean findCheapest(int cause) {
            weigh(cause);
            cheapestPrice = NO_PRICE;
            cheapestSet = 0;
            choose(0, 0, 0, 0);
            return cheapestPrice < NO_PRICE;
        }

        /** Tries with and without each who may be bought from the i-th on: 9 deep at most, as 9 are SEATED. */
        private void choose(int i, int set, int price, int weight) {
            if (price > cheapestPrice) {
                return;
            }
            if (isCarriedWith(weight)) {
                keepIfBetter(set, price);
            }
            if (i < MOST_SEATED && buyable.has(i)) {
                int p = buyable.get(i, 0);
                choose(i + 1, set, price, weight);
                choose(i + 1, set | 1 << p, price + realm.persons.get(p, PERSON_PRICE), weight + weights.get(p, 0));
            }
        }

        private void keepIfBetter(int set, int price) {
            int fewer = Integer.bitCount(set) - Integer.bitCount(cheapestSet);
            boolean smaller = fewer < 0 || fewer == 0 && set < cheapestSet;
            if (price < cheapestPrice || price == cheapestPrice && smaller) {
                cheapestPrice = price;
                cheapestSet = set;
            }
        }
    }

    /** Who FOLLOWS, when THE CHILD is OF AGE, and what goes on then. */
    private static final class Lineage {
        private final Realm realm;
        private final Laws laws;
        private final Table line;

        Lineage(Realm realm, Laws laws) {
            this.realm = realm;
            this.laws = laws;
            line = new Table(MOST_PERSONS, 1);
        }

        int follower(int i) {
            line.clear();
            int n = realm.persons.used();
            for (int p = 0; p < n; p++) {
                if (p != CHILD && isFollower(p)) {
                    enqueue(p);
                }
            }
            return line.has(i) ? line.get(i, 0) : NONE;
        }

        private boolean isFollower(int p) {
            return realm.isLiving(p) && realm.persons.get(p, PERSON_STEPS) != NO_BLOOD
                    && laws.ruling(USE_FOLLOWS, realm.day, realm.day, p, -1) != 0;
        }

        /** PERSONS come by their numbers, so one that is level with another stays behind it. */
        private void enqueue(int p) {
            int place = line.append(p);
            for (int i = place; i > 0 && isAhead(p, line.get(i - 1, 0)); i--) {
                line.set(i, 0, line.get(i - 1, 0));
                line.set(i - 1, 0, p);
            }
        }

        private boolean isAhead(int p, int other) {
            int nearer = realm.persons.get(p, PERSON_STEPS) - realm.persons.get(other, PERSON_STEPS);
            int older = realm.persons.get(p, PERSON_BORN) - realm.persons.get(other, PERSON_BORN);
            return nearer < 0 || nearer == 0 && older < 0;
        }

        int dayOfAge() {
            if (!realm.persons.has(CHILD)) {
                return NONE;
            }
            int born = realm.persons.get(CHILD, PERSON_BORN);
            int law = -1;
            int beginning = realm.day;
            for (int day = realm.day; day <= LAST_DAY; day++) {
                boolean begins = day == beginning;
                if (begins) {
                    law = laws.inForce(USE_AGE, day, realm.day);
                    beginning = laws.nextBeginning(USE_AGE, day);
                }
                // On other days neither the LAW nor a NAME in it is another than the day before.
                boolean mayChange = begins || (day - born) % YEAR_DAYS == 0 || laws.namesDay(law);
                if (mayChange && (law < 0 || laws.comesTo(law, CHILD, -1, day) != 0)) {
                    return day;
                }
            }
            return NONE;
        }

        int fateOf(int power) {
            int day = dayOfAge();
            if (day < 0) {
                return NONE;
            }
            int holder = realm.powers.get(power, POWER_HOLDER);
            int fate = laws.ruling(USE_STAYS, day, realm.day, holder, -1);
            return fate == 0 || fate == 1 ? fate : 2;
        }
    }

    /** A NIGHT. GATES are only ever taken from GATE 0 on, so those taken are told by how many they are. */
    private static final class Gates {
        private final Realm realm;
        private final int[] guards;
        private int told;

        Gates(Realm realm) {
            this.realm = realm;
            guards = new int[GATES];
        }

        void prepare(int gate) {
            told = gate;
            for (int i = 0; i < guards.length; i++) {
                guards[i] = realm.guards.get(i, 0);
            }
        }

        private boolean winsWithin(int hours, int taken, int men) {
            return hours > 0 && (winsByTaking(hours, taken, men) || winsByWaiting(hours, taken, men));
        }

        private boolean winsByTaking(int hours, int taken, int men) {
            if (taken < 0 || taken >= guards.length || men <= guards[taken]) {
                return false;
            }
            return taken == told || winsWhatever(hours - 1, taken + 1, men - guards[taken]);
        }

        private boolean winsByWaiting(int hours, int taken, int men) {
            return winsWhatever(hours - 1, taken, men);
        }

        private boolean winsWhatever(int hours, int taken, int men) {
            boolean wins = winsWithin(hours, taken, men);
            for (int gate = Math.max(0, taken); gate < guards.length - 1 && wins; gate++) {
                wins = winsDespite(gate, gate + 1, hours, taken, men)
                        && winsDespite(gate + 1, gate, hours, taken, men);
            }
            return wins;
        }

        /** Whether they win still if one GUARD goes from a GATE to one beside it; true if none can. */
        private boolean winsDespite(int from, int to, int hours, int taken, int men) {
            boolean areGates = from >= 0 && from < guards.length && to >= 0 && to < guards.length;
            if (!areGates || guards[from] < 1 || guards[to] >= MOST_GUARDS) {
                return true;
            }
            guards[from]--;
            guards[to]++;
            boolean wins = winsWithin(hours, taken, men);
            guards[from]++;
            guards[to]--;
            return wins;
        }
    }

    /**
     * THE PLAN. For each set of pledged TOWNS only the most COIN that can be left with it is kept,
     * as more is never worse; and of several ways to it the one whose pledges, as digits to the
     * base 7 (0: none, else the TOWN and 1), are the least number, which is the order of PLANS.
     */
    private static final class Planner {
        private static final int PLAN_TOWNS = 6;
        private static final int SETS = 64;
        private static final int CHOICES = PLAN_TOWNS + 1;

        private final Realm realm;
        private final int[] coin = new int[SETS];
        private final int[] pledges = new int[SETS];
        private final int[] rents = new int[SETS];
        private int free;
        private int bestLeaves;
        private int bestPledges;

        Planner(Realm realm) {
            this.realm = realm;
        }

        void begin() {
            Arrays.fill(coin, -1);
            coin[0] = realm.chest;
            pledges[0] = 0;
            free = 0;
            for (int t = 0; t < PLAN_TOWNS; t++) {
                boolean mayBe = realm.towns.has(t) && realm.towns.get(t, TOWN_OWNER) == NOBODY
                        && realm.towns.get(t, TOWN_FORFEIT) == 0;
                free |= mayBe ? 1 << t : 0;
            }
            for (int set = 0; set < SETS; set++) {
                rents[set] = rentsBut(set);
            }
        }

        /** Sets are gone through downwards: what comes to one is from smaller sets, not yet passed on. */
        void passQuarter(int cost) {
            for (int set = SETS - 1; set >= 0; set--) {
                int most = -1;
                int how = 0;
                for (int choice = 0; choice < CHOICES; choice++) {
                    int left = leftBy(set, choice, cost);
                    int digits = left < 0 ? 0 : pledges[before(set, choice)] * CHOICES + choice;
                    if (left > most || left >= 0 && left == most && digits < how) {
                        most = left;
                        how = digits;
                    }
                }
                coin[set] = most;
                pledges[set] = how;
            }
        }

        /** The set of which `set` is made by a choice; always a place of the rows. */
        private static int before(int set, int choice) {
            int without = choice == 0 ? set : set & ~(1 << (choice - 1));
            return without & (SETS - 1);
        }

        /** COIN that is left with a set after a QUARTER in which the choice was made; below 0: it can't be. */
        private int leftBy(int set, int choice, int cost) {
            int was = before(set, choice);
            boolean canBe = choice == 0 || was != set && (free >> (choice - 1) & 1) != 0;
            if (!canBe || coin[was] < 0) {
                return -1;
            }
            int pledged = choice == 0 ? 0 : 4 * realm.towns.get(choice - 1, TOWN_RENT);
            return Math.max(-1, coin[was] + rents[was] + pledged - cost);
        }

        private int rentsBut(int set) {
            int sum = 0;
            for (int t = 0; t < PLAN_TOWNS; t++) {
                if ((free & ~set & 1 << t) != 0) {
                    sum += realm.towns.get(t, TOWN_RENT);
                }
            }
            return sum;
        }

        boolean findBest() {
            boolean found = false;
            for (int set = 0; set < SETS; set++) {
                int leaves = coin[set] + 8 * rents[set];
                boolean better = !found || leaves > bestLeaves
                        || leaves == bestLeaves && pledges[set] < bestPledges;
                if (coin[set] >= 0 && better) {
                    found = true;
                    bestLeaves = leaves;
                    bestPledges = pledges[set];
                }
            }
            return found;
        }

        int pledgedIn(int quarter, int quarters) {
            int digits = bestPledges;
            for (int i = quarters - 1; i > quarter; i--) {
                digits /= CHOICES;
            }
            return digits % CHOICES - 1;
        }
    }

    /**
     * VOICES of one POWER. In each method `kind` is where the search for a BODY begins: the KIND of
     * the POWER, or with super the KIND above the BODY's.
     */
    private static final class Voices {
        private static final int MOST_TRACED = 40;

        private final int[] bodies = new int[MOST_TRACED];
        private int traced;
        private int own;
        private int n;
        private int w;

        void begin(int kind, int number, int worth) {
            traced = 0;
            own = kind;
            n = number;
            w = worth;
        }

        int bodyAt(int i) {
            return i >= 0 && i < traced && i < bodies.length ? bodies[i] : 0;
        }

        int speak(int act, int x) {
            switch (act) {
                case 0: return actOf(own, x);
                case 1: return bindOf(own, x);
                case 2: return rankOf(own, x);
                default: return tellOf(own, x);
            }
        }

        private void note(int body) {
            if (traced >= 0 && traced < bodies.length) {
                bodies[traced] = body;
                traced++;
            }
        }

        private int actOf(int kind, int x) {
            switch (kind) {
                case MARCH:
                    note(50);
                    return actOf(GUARD, x - w);
                case GUARD:
                case OFFICE:
                    note(20);
                    return actOf(0, x) + n;
                default:
                    note(10);
                    return x + w;
            }
        }

        private int bindOf(int kind, int x) {
            switch (kind) {
                case MARCH:
                case GUARD:
                    note(40);
                    return bindOf(OFFICE, x) - actOf(own, x);
                case CLAIM:
                    note(60);
                    return bindOf(0, x) + w;
                default:
                    note(11);
                    return actOf(own, x) * 2;
            }
        }

        private int rankOf(int kind, int x) {
            if (kind == SEAL) {
                note(30);
                return rankOf(0, x) * 3;
            }
            note(12);
            return x - n;
        }

        private int tellOf(int kind, int x) {
            switch (kind) {
                case MARCH:
                    note(51);
                    return rankOf(own, x) - tellOf(GUARD, x);
                case GUARD:
                case OFFICE:
                    note(21);
                    return tellOf(0, x + 1);
                default:
                    note(13);
                    return bindOf(own, x) ^ rankOf(own, x);
            }
        }
    }

    /** SHEETS; of 0 bits one is missing. */
    private static final class Sheets {
        private final int[] bits = new int[SHEETS];
        private final int[] sizes = new int[SHEETS];
        private final Table numbers = new Table(SHEETS, SHEET_NUMBERS);

        boolean has(int sheet) {
            return sheet >= 0 && sheet < SHEETS;
        }

        boolean isWidth(int width) {
            return width == 8 || width == 16 || width == 32;
        }

        int bitsOf(int sheet) {
            return sheet >= 0 && sheet < bits.length ? bits[sheet] : 0;
        }

        int sizeOf(int sheet) {
            return sheet >= 0 && sheet < sizes.length ? sizes[sheet] : 0;
        }

        boolean isMissing(int sheet) {
            return bitsOf(sheet) == 0;
        }

        void layOut(int sheet, int width, int n) {
            if (sheet >= 0 && sheet < bits.length && sheet < sizes.length) {
                bits[sheet] = width;
                sizes[sheet] = n;
            }
            for (int i = 0; i < SHEET_NUMBERS; i++) {
                numbers.set(sheet, i, 0);
            }
        }

        int numberAt(int sheet, int i) {
            return numbers.get(sheet, i);
        }

        void setNumber(int sheet, int i, int v) {
            int width = bitsOf(sheet);
            numbers.set(sheet, i, width == 8 ? (byte) v : width == 16 ? (short) v : v);
        }

        boolean areAllWithin(int sheet, int least, int most) {
            int n = sizeOf(sheet);
            for (int i = 0; i < n; i++) {
                if (isOutside(numberAt(sheet, i), least, most)) {
                    return false;
                }
            }
            return true;
        }

        boolean stand(int sheet, int i, int n) {
            return i >= 0 && n >= 0 && n <= sizeOf(sheet) && i <= sizeOf(sheet) - n;
        }

        void transfer(int sheet, int i, int other, int j, int n) {
            numbers.transfer(sheet, i, other, j, n);
        }
    }
}
