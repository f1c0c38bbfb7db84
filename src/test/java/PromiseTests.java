/** One method for each promise of the document, by its number: ordinary inputs, edges, wrong inputs. */
public final class PromiseTests {
    private static final int BEYOND = -1000001;
    private static final int NONE = -1000002;
    private static final int STATE = -1000003;
    private static final int FULL = -1000004;
    private static final int KIND = -1000005;
    private static int wrong;
    private static int promise;

    private static void due(String call, int got, int want) {
        if (got != want) {
            wrong++;
            System.out.println("promise " + promise + ": " + call + " answered " + got + ", due is " + want);
        }
    }

    /** n TOWNS in a row, a day between each and the next. */
    private static SealCouncil row(int n) {
        SealCouncil x = new SealCouncil();
        for (int i = 0; i < n; i++) {
            x.town();
            if (i > 0) {
                x.road(i - 1, i, 1);
            }
        }
        return x;
    }

    /** n PERSONS that are grown, all at the COURT of one TOWN. */
    private static SealCouncil court(int n) {
        SealCouncil x = row(1);
        for (int i = 0; i < n; i++) {
            x.person(1, -9000, 0, 0);
        }
        return x;
    }

    private static void feed(SealCouncil x, String text) {
        for (int i = 0; i < text.length(); i++) {
            x.feed(text.charAt(i), 1);
        }
    }

    private static int law(SealCouncil x, int use, int from, String text) {
        feed(x, text);
        return x.law(use, from);
    }

    private static int comesTo(SealCouncil x, String text, int person, int letter) {
        x.image();
        int said = x.says(law(x, 0, 0, text), person, letter);
        x.restore();
        return said;
    }

    private static int fault(String text) {
        return law(new SealCouncil(), 0, 0, text);
    }

    /** A LETTER from PERSON 0 that PERSON `to`, at the same place, has opened. */
    private static int opened(SealCouncil x, int sort, int worth, int to) {
        int letter = x.draw(0, sort, worth);
        x.send(letter, to);
        x.open(letter);
        return letter;
    }

    private static void sheetOf(SealCouncil x, int sheet, int... numbers) {
        x.sheet(sheet, 32, numbers.length);
        for (int i = 0; i < numbers.length; i++) {
            x.put(sheet, i, numbers[i]);
        }
    }

    private static void p1() {
        SealCouncil x = new SealCouncil();
        for (int what = 0; what <= 15; what++) {
            due("count(" + what + ")", x.count(what), what == 9 ? 1000 : 0);
        }
        for (int k = 1; k <= 5; k++) {
            due("found(" + k + ")", x.found(k), 0);
        }
        due("night", x.night(1, 1, 0, 0), 1);
        due("trace(0)", x.trace(0), NONE);
        due("restore()", x.restore(), NONE);
        due("put(0, 0, 0)", x.put(0, 0, 0), NONE);
    }

    private static void p2() {
        SealCouncil x = new SealCouncil();
        for (int i = 0; i < 10; i++) {
            due("town " + i, x.town(), i);
        }
        due("town 10", x.town(), FULL);
        due("count(0)", x.count(0), 10);
        due("own(9, -1)", x.own(9, -1), -1);
        due("rent(9, 5)", x.rent(9, 5), 0);
    }

    private static void p3() {
        SealCouncil x = new SealCouncil();
        x.town();
        x.town();
        due("road(0, 2, 1)", x.road(0, 2, 1), BEYOND);
        due("road(-1, 1, 1)", x.road(-1, 1, 1), BEYOND);
        due("road(1, 1, 1)", x.road(1, 1, 1), BEYOND);
        due("road(0, 1, 0)", x.road(0, 1, 0), BEYOND);
        due("road(0, 1, 10)", x.road(0, 1, 10), BEYOND);
        for (int i = 1; i <= 20; i++) {
            due("road " + i, x.road(0, 1, 1 + i % 9), i);
        }
        due("road 21", x.road(0, 1, 1), FULL);
        due("road 21 to nowhere", x.road(0, 2, 1), BEYOND);
    }

    private static void p4() {
        SealCouncil x = new SealCouncil();
        for (int i = 0; i < 5; i++) {
            x.town();
        }
        due("far(0, 0)", x.far(0, 0), 0);
        due("far(0, 1)", x.far(0, 1), NONE);
        due("far(0, 5)", x.far(0, 5), BEYOND);
        due("far(-1, 0)", x.far(-1, 0), BEYOND);
        x.road(0, 1, 9);
        x.road(2, 3, 2);
        due("far(0, 3)", x.far(0, 3), NONE);
        x.road(1, 2, 1);
        due("far(0, 3)", x.far(0, 3), 12);
        due("far(3, 0)", x.far(3, 0), 12);
        x.road(3, 0, 1);
        due("far(0, 3)", x.far(0, 3), 1);
        due("far(0, 1)", x.far(0, 1), 4);
        x.road(0, 1, 8);
        due("far(1, 0)", x.far(1, 0), 4);
        due("far(4, 0)", x.far(4, 0), NONE);
    }

    private static void p5() {
        SealCouncil x = row(2);
        due("person(2, 0, 0, 0)", x.person(2, 0, 0, 0), BEYOND);
        due("person(-1, 0, 0, 0)", x.person(-1, 0, 0, 0), BEYOND);
        due("person(1, 1, 0, 0)", x.person(1, 1, 0, 0), BEYOND);
        due("person(1, -20001, 0, 0)", x.person(1, -20001, 0, 0), BEYOND);
        due("person(1, 0, 0, 2)", x.person(1, 0, 0, 2), BEYOND);
        due("person(1, 0, 1, 0)", x.person(1, 0, 1, 0), BEYOND);
        due("person(1, -20000, 0, 0)", x.person(1, -20000, 0, 0), 0);
        due("person(0, -10000, 0, 1)", x.person(0, -10000, 0, 1), 1);
        due("a mother as father", x.person(1, 0, 200, 0), BEYOND);
        due("a father as mother", x.person(1, 0, 1, 0), BEYOND);
        due("no such father", x.person(1, 0, 300, 0), BEYOND);
        due("no such mother", x.person(1, 0, 3, 0), BEYOND);
        due("parents below 0", x.person(1, 0, -100, 0), BEYOND);
        due("born with its mother", x.person(1, -10000, 102, 0), BEYOND);
        due("born behind its mother", x.person(1, -9999, 102, 0), 2);
        due("a father alone", x.person(0, -1, 100, 0), 3);
        due("a mother alone", x.person(0, -1, 2, 0), 4);
        x.days(7);
        due("born on the DAY", x.person(0, 7, 0, 0), 5);
        due("born past the DAY", x.person(0, 8, 0, 0), BEYOND);
        for (int i = 6; i < 20; i++) {
            due("person " + i, x.person(1, 0, 0, 0), i);
        }
        due("person 20", x.person(1, 0, 0, 0), FULL);
        due("person 20 of no sex", x.person(3, 0, 0, 0), BEYOND);
        due("about(4, 9)", x.about(4, 9), 1);
    }

    private static void p6() {
        SealCouncil x = court(4);
        due("die(4)", x.die(4), BEYOND);
        due("die(-1)", x.die(-1), BEYOND);
        x.pay(1, 77);
        x.men(1, 5);
        x.seat(1, true);
        x.power(1, 1, 1);
        x.power(2, 1, 1);
        x.power(2, 2, 1);
        x.lend(1, 2, 9);
        x.lend(2, 1, 9);
        x.promise(1, 0, 9, true);
        due("die(1)", x.die(1), 77);
        due("THE CHEST", x.count(9), 1000);
        due("COIN", x.about(1, 1), 0);
        due("MEN", x.about(1, 2), 0);
        due("POWERS", x.about(1, 5), 0);
        due("dead", x.about(1, 6), 1);
        due("SEATED", x.about(1, 7), 0);
        due("OFFICE", x.held(0, 1), -1);
        due("its SEAL's HOLDER", x.held(1, 1), -1);
        due("who has its SEAL", x.held(1, 2), -1);
        due("its SEAL's day", x.held(1, 4), -1);
        due("what was LENT to it", x.held(2, 2), 2);
        due("its day", x.held(2, 4), -1);
        due("its PROMISE", x.breaks(0), STATE);
        due("die(1)", x.die(1), STATE);
        due("die(0)", x.die(0), 0);
    }

    private static void p7() {
        SealCouncil x = row(3);
        x.town();
        x.person(1, 0, 0, 0);
        due("go(1, 0)", x.go(1, 0), BEYOND);
        due("go(0, 4)", x.go(0, 4), BEYOND);
        due("go(0, 3)", x.go(0, 3), NONE);
        due("go(0, 0)", x.go(0, 0), 0);
        due("about(0, 0)", x.about(0, 0), 0);
        due("go(0, 2)", x.go(0, 2), 2);
        due("about(0, 0)", x.about(0, 0), -1);
        due("go(0, 3) on the road", x.go(0, 3), STATE);
        x.days(1);
        due("about(0, 0)", x.about(0, 0), -1);
        x.days(1);
        due("about(0, 0)", x.about(0, 0), 2);
        due("go(0, 0)", x.go(0, 0), 4);
        x.days(2);
        x.die(0);
        due("go(0, 1) of one dead", x.go(0, 1), STATE);
        due("go(0, 4) of one dead", x.go(0, 4), BEYOND);
    }

    private static void p8() {
        SealCouncil x = row(3);
        x.town();
        x.person(1, -359, 0, 0);
        x.person(0, -8000, 0, 2);
        x.person(1, -8000, 0, 3);
        due("about(3, 0)", x.about(3, 0), BEYOND);
        due("about(0, -1)", x.about(0, -1), BEYOND);
        due("about(0, 10)", x.about(0, 10), BEYOND);
        due("AGE", x.about(0, 3), 0);
        due("KNOWN at the COURT", x.about(0, 4), 0);
        due("KNOWN too far off", x.about(1, 4), -1);
        due("steps of THE CHILD", x.about(0, 8), 0);
        due("steps of no blood", x.about(1, 8), 99);
        x.days(1);
        due("AGE", x.about(0, 3), 1);
        due("KNOWN", x.about(1, 4), -1);
        x.days(3);
        due("KNOWN", x.about(1, 4), 2);
        due("KNOWN without a way", x.about(2, 4), -1);
        x.person(0, 3, 102, 1);
        due("steps of its child", x.about(3, 8), 1);
        due("steps of its mother", x.about(1, 8), 2);
        x.person(1, 2, 302, 0);
        due("steps of its brother", x.about(4, 8), 3);
        due("steps of that one's father", x.about(2, 8), 4);
        x.road(0, 3, 1);
        due("KNOWN with a way", x.about(2, 4), 3);
        x.go(0, 2);
        x.days(1);
        due("KNOWN on the road", x.about(0, 4), 4);
        x.days(1);
        due("KNOWN never less", x.about(0, 4), 4);
        x.days(1);
        due("KNOWN there", x.about(0, 4), 5);
        x.die(1);
        x.days(9);
        due("KNOWN to one dead", x.about(1, 4), 5);
        due("AGE of one dead", x.about(1, 3), 22);
        due("PRICE", x.about(0, 9), 1);
        x.power(1, 0, 1);
        x.power(2, 0, 1);
        x.lend(1, 2, 99);
        due("POWERS held, LENT ones too", x.about(0, 5), 2);
        due("POWERS held by who borrows", x.about(2, 5), 0);
        SealCouncil z = row(1);
        z.town();
        z.person(1, 0, 0, 1);
        for (int i = 0; i < 4; i++) {
            z.days(400);
        }
        due("KNOWN without a way, late", z.about(0, 4), -1);
    }

    private static void p9() {
        SealCouncil x = court(2);
        due("pay(2, 1)", x.pay(2, 1), BEYOND);
        due("pay(0, 0)", x.pay(0, 0), BEYOND);
        due("pay(0, 10000)", x.pay(0, 10000), BEYOND);
        due("pay(0, 1001)", x.pay(0, 1001), NONE);
        due("pay(0, 400)", x.pay(0, 400), 600);
        due("pay(1, 600)", x.pay(1, 600), 0);
        due("pay(1, 1)", x.pay(1, 1), NONE);
        due("COIN", x.about(0, 1), 400);
        x.die(1);
        due("pay to one dead", x.pay(1, 9999), STATE);
    }

    private static void p10() {
        SealCouncil x = court(2);
        due("men(2, 1)", x.men(2, 1), BEYOND);
        due("men(0, 100)", x.men(0, 100), BEYOND);
        due("men(0, -100)", x.men(0, -100), BEYOND);
        due("men(0, -1)", x.men(0, -1), BEYOND);
        for (int i = 1; i <= 10; i++) {
            due("men(0, 99)", x.men(0, 99), 99 * i);
        }
        due("men(0, 10)", x.men(0, 10), BEYOND);
        due("men(0, 9)", x.men(0, 9), 999);
        due("men(0, 0)", x.men(0, 0), 999);
        due("men(0, -100)", x.men(0, -100), BEYOND);
        due("men(0, -99)", x.men(0, -99), 900);
        x.die(1);
        due("men(1, -1) of one dead", x.men(1, -1), STATE);
        due("men(1, 100) of one dead", x.men(1, 100), BEYOND);
    }

    private static void p11() {
        SealCouncil x = court(2);
        x.die(1);
        due("power(6, 0, 0)", x.power(6, 0, 0), BEYOND);
        due("power(-1, 0, 0)", x.power(-1, 0, 0), BEYOND);
        due("power(0, 2, 0)", x.power(0, 2, 0), BEYOND);
        due("power(0, -2, 0)", x.power(0, -2, 0), BEYOND);
        due("power(0, 1, 0)", x.power(0, 1, 0), BEYOND);
        due("power(0, 0, 100)", x.power(0, 0, 100), BEYOND);
        due("power(0, 0, -1)", x.power(0, 0, -1), BEYOND);
        for (int i = 0; i < 20; i++) {
            due("power " + i, x.power(i % 6, i % 2 - 1, 99 - i), i);
        }
        due("power 20", x.power(0, 0, 0), FULL);
        due("held(6, 1)", x.held(6, 1), -1);
        due("held(7, 1)", x.held(7, 1), 0);
    }

    private static void p12() {
        SealCouncil x = court(1);
        String[] under = {"0", "01", "02", "013", "0134", "05"};
        for (int i = 0; i < 6; i++) {
            x.power(i, 0, 10 + i);
            for (int kind = 0; kind < 6; kind++) {
                int want = under[i].indexOf('0' + kind) >= 0 ? 10 + i : KIND;
                due("as(" + i + ", " + kind + ")", x.as(i, kind), want);
            }
        }
        due("as(6, 0)", x.as(6, 0), BEYOND);
        due("as(-1, 0)", x.as(-1, 0), BEYOND);
        due("as(0, 6)", x.as(0, 6), BEYOND);
        due("as(0, -1)", x.as(0, -1), BEYOND);
    }

    private static void p13() {
        SealCouncil x = court(2);
        x.power(4, 1, 3);
        x.power(2, -1, 3);
        x.power(2, 0, 3);
        x.lend(2, 1, 5);
        due("held(0, 0)", x.held(0, 0), 4);
        due("held(0, 1)", x.held(0, 1), 1);
        due("held(0, 2)", x.held(0, 2), 1);
        due("held(0, 3)", x.held(0, 3), -1);
        due("held(0, 4)", x.held(0, 4), -1);
        due("held(1, 2)", x.held(1, 2), -1);
        due("held(1, 3)", x.held(1, 3), 1);
        due("held(2, 1)", x.held(2, 1), 0);
        due("held(2, 2)", x.held(2, 2), 1);
        due("held(2, 4)", x.held(2, 4), 5);
        due("held(3, 0)", x.held(3, 0), BEYOND);
        due("held(0, 5)", x.held(0, 5), BEYOND);
        due("held(0, -1)", x.held(0, -1), BEYOND);
    }

    private static void p14() {
        SealCouncil x = court(3);
        x.power(2, -1, 3);
        due("give(0, 1)", x.give(0, 1), -1);
        due("give(0, 0)", x.give(0, 0), 1);
        due("give(0, -1)", x.give(0, -1), 0);
        due("give(0, -2)", x.give(0, -2), BEYOND);
        due("give(0, 3)", x.give(0, 3), BEYOND);
        due("give(1, 0)", x.give(1, 0), BEYOND);
        x.give(0, 0);
        x.lend(0, 1, 0);
        due("give(0, 2) of one LENT", x.give(0, 2), STATE);
        x.die(2);
        due("give(0, 2) to one dead", x.give(0, 2), BEYOND);
        x.days(1);
        due("give(0, 1)", x.give(0, 1), 0);
    }

    private static void p15() {
        SealCouncil x = court(4);
        x.power(2, 0, 3);
        x.power(1, 0, 3);
        x.power(2, -1, 3);
        x.die(3);
        x.days(5);
        due("lend(3, 1, 9)", x.lend(3, 1, 9), BEYOND);
        due("lend(0, 4, 9)", x.lend(0, 4, 9), BEYOND);
        due("lend(0, -1, 9)", x.lend(0, -1, 9), BEYOND);
        due("lend(0, 3, 9)", x.lend(0, 3, 9), BEYOND);
        due("lend(0, 1, 4)", x.lend(0, 1, 4), BEYOND);
        due("lend(0, 1, 2001)", x.lend(0, 1, 2001), BEYOND);
        due("lend(1, 0, 9)", x.lend(1, 0, 9), KIND);
        due("lend(2, 0, 9)", x.lend(2, 0, 9), STATE);
        due("lend(0, 0, 9)", x.lend(0, 0, 9), STATE);
        due("lend(0, 1, 5)", x.lend(0, 1, 5), 1);
        due("lend(0, 2, 5)", x.lend(0, 2, 5), STATE);
        x.days(1);
        due("held(0, 2)", x.held(0, 2), 0);
        x.lend(0, 1, 8);
        x.days(2);
        due("with that day", x.held(0, 2), 1);
        x.days(1);
        due("its day is past", x.held(0, 2), 0);
        due("its day is past", x.held(0, 4), -1);
        due("lend(0, 2, 2000)", x.lend(0, 2, 2000), 1);
    }

    private static void p16() {
        SealCouncil x = court(2);
        x.power(5, 0, 3);
        x.power(2, 0, 3);
        x.power(2, -1, 3);
        due("copy(3)", x.copy(3), BEYOND);
        due("copy(0)", x.copy(0), KIND);
        due("copy(2)", x.copy(2), STATE);
        due("copy(1)", x.copy(1), 3);
        due("WORTH", x.as(3, 2), 0);
        due("HOLDER", x.held(3, 1), 0);
        due("MARK", x.held(3, 3), 1);
        x.lend(3, 1, 9);
        due("copy(3)", x.copy(3), 4);
        due("MARK of a COPY's COPY", x.held(4, 3), 1);
        due("its HOLDER", x.held(4, 1), 1);
        due("it is not LENT", x.held(4, 4), -1);
        for (int i = 5; i < 20; i++) {
            x.copy(1);
        }
        due("copy(1)", x.copy(1), FULL);
        due("copy(2)", x.copy(2), STATE);
    }

    private static void p17() {
        SealCouncil x = new SealCouncil();
        due("feed(0, 0)", x.feed(0L, 0), BEYOND);
        due("feed(0, 9)", x.feed(0L, 9), BEYOND);
        due("feed(1+2, 3)", x.feed(0x322b31L, 3), 3);
        due("law(0, 0)", x.law(0, 0), 0);
        due("says(0)", x.says(0, -1, -1), 3);
        due("feed(-1, 8)", x.feed(-1L, 8), 8);
        for (int i = 2; i <= 7; i++) {
            x.feed(-1L, 8);
        }
        due("feed(0, 5)", x.feed(0L, 5), FULL);
        due("feed(0, 4)", x.feed(0L, 4), 60);
        due("feed(0, 1)", x.feed(0L, 1), FULL);
        due("feed(0, 9)", x.feed(0L, 9), BEYOND);
    }

    private static void p18() {
        due("an empty TAPE", fault(""), -10);
        due("a", fault("a"), 0);
        due("x", fault("x"), -10);
        due("A", fault("A"), -10);
        due("a+", fault("a+"), -12);
        due("a +1", fault("a +1"), -11);
        due("12345", fault("12345"), -14);
        due("1234", fault("1234"), 0);
        due("1234+0000", fault("1234+0000"), 0);
        due("a<1<2", fault("a<1<2"), -13);
        due("(a<1)<2", fault("(a<1)<2"), 0);
        due("a<1=2", fault("a<1=2"), -13);
        due("a)", fault("a)"), -11);
        due("(a", fault("(a"), -12);
        due("()", fault("()"), -11);
        due("ab", fault("ab"), -11);
        due("a1", fault("a1"), -11);
        due("1a", fault("1a"), -11);
        due("-1", fault("-1"), -10);
        due("!!!!!a", fault("!!!!!a"), 0);
        due("!!!!!!a", fault("!!!!!!a"), -15);
        due("(((((a)))))", fault("(((((a)))))"), 0);
        due("((((((a))))))", fault("((((((a))))))"), -15);
        due("!(!(!(a)))", fault("!(!(!(a)))"), -15);
        due("!(!(!a))", fault("!(!(!a))"), 0);
        due("(!!!!a)+(!!!!a)", fault("(!!!!a)+(!!!!a)"), 0);
        due("!!!!!a+!!!!!(", fault("!!!!!a+!!!!!("), -22);
        due("a&|b", fault("a&|b"), -12);
        due("a!b", fault("a!b"), -11);
        SealCouncil x = new SealCouncil();
        feed(x, "d");
        due("law(5, 0)", x.law(5, 0), BEYOND);
        due("law(-1, 0)", x.law(-1, 0), BEYOND);
        due("law(0, 2001)", x.law(0, 2001), BEYOND);
        due("law(0, -1)", x.law(0, -1), BEYOND);
        due("THE TAPE stays", x.count(10), 1);
        due("law(4, 2000)", x.law(4, 2000), 0);
        due("THE TAPE is empty", x.count(10), 0);
        due("a FAULT", law(x, 0, 0, "d+d+"), -14);
        due("THE TAPE is empty", x.count(10), 0);
        due("no LAW by a FAULT", x.count(4), 1);
        for (int i = 1; i < 12; i++) {
            due("law " + i, law(x, 0, 0, "d"), i);
        }
        due("law 12", law(x, 0, 0, "d"), FULL);
        due("THE TAPE stays", x.count(10), 1);
        due("law of no USE", x.law(9, 0), BEYOND);
    }

    private static void p19() {
        SealCouncil x = court(1);
        due("strike(0)", x.strike(0), BEYOND);
        law(x, 1, 0, "0");
        due("strike(-1)", x.strike(-1), BEYOND);
        x.days(3);
        due("strike(0)", x.strike(0), 1);
        due("strike(0)", x.strike(0), STATE);
        due("known ahead of that", x.force(1, 5, 2), 0);
        due("known on that DAY", x.force(1, 5, 3), NONE);
    }

    private static void p20() {
        SealCouncil x = court(1);
        due("force(5, 0, 0)", x.force(5, 0, 0), BEYOND);
        due("force(-1, 0, 0)", x.force(-1, 0, 0), BEYOND);
        due("force(0, 2001, 0)", x.force(0, 2001, 0), BEYOND);
        due("force(0, -1, 0)", x.force(0, -1, 0), BEYOND);
        due("force(0, 0, 2001)", x.force(0, 0, 2001), BEYOND);
        due("force(0, 0, -2)", x.force(0, 0, -2), BEYOND);
        due("force(0, 0, -1)", x.force(0, 0, -1), NONE);
        law(x, 1, 10, "1");
        law(x, 1, 0, "2");
        law(x, 0, 0, "3");
        law(x, 1, 10, "4");
        x.days(2);
        law(x, 1, 20, "5");
        due("as none is known", x.force(1, 50, -1), NONE);
        due("of one DAY the greater", x.force(1, 10, 0), 3);
        due("not yet for that day", x.force(1, 9, 0), 1);
        due("not yet known", x.force(1, 20, 1), 3);
        due("MADE last", x.force(1, 20, 2), 4);
        due("for that day or one ahead", x.force(1, 19, 2000), 3);
        due("of another USE", x.force(0, 2000, 2000), 2);
        due("of no LAW's USE", x.force(2, 2000, 2000), NONE);
        x.strike(4);
        due("STRUCK", x.force(1, 20, 2), 3);
        due("as KNOWN ahead", x.force(1, 20, 1), 3);
    }

    private static void p21() {
        SealCouncil x = row(2);
        x.person(1, -100, 0, 0);
        x.person(0, -7300, 0, 1);
        x.power(2, 1, 1);
        x.power(2, 1, 1);
        x.pay(1, 30);
        x.men(1, 4);
        x.draw(1, 3, 321);
        x.press(0, 0);
        x.press(0, 1);
        x.days(60);
        due("a", comesTo(x, "a", 1, -1), 20);
        due("s", comesTo(x, "s", 0, -1), 1);
        due("k", comesTo(x, "k", 1, -1), 2);
        due("c", comesTo(x, "c", 1, -1), 30);
        due("m", comesTo(x, "m", 1, -1), 4);
        due("t", comesTo(x, "t", 1, -1), 1);
        due("b", comesTo(x, "b", 1, -1), 99);
        due("b of THE CHILD", comesTo(x, "b", 0, -1), 0);
        due("y", comesTo(x, "y", -1, 0), 2);
        due("o", comesTo(x, "o", -1, 0), 3);
        due("w", comesTo(x, "w", -1, 0), 321);
        due("d", comesTo(x, "d", -1, -1), 60);
        due("without", comesTo(x, "a|s|k|c|m|t|b|y|o|w", -1, -1), 0);
        due("a number alone", comesTo(x, "7", -1, -1), 7);
        due("7|0", comesTo(x, "7|0", -1, -1), 1);
        due("7&2", comesTo(x, "7&2", -1, -1), 1);
        due("7&0", comesTo(x, "7&0", -1, -1), 0);
        due("0|0", comesTo(x, "0|0", -1, -1), 0);
        due("1|0&0", comesTo(x, "1|0&0", -1, -1), 1);
        due("1-2-3", comesTo(x, "1-2-3", -1, -1), -4);
        due("1-(2-3)", comesTo(x, "1-(2-3)", -1, -1), 2);
        due("!5+3", comesTo(x, "!5+3", -1, -1), 3);
        due("!0+3", comesTo(x, "!0+3", -1, -1), 4);
        due("!(0-1)", comesTo(x, "!(0-1)", -1, -1), 0);
        due("1+1=2", comesTo(x, "1+1=2", -1, -1), 1);
        due("1+1>2", comesTo(x, "1+1>2", -1, -1), 0);
        due("1<2", comesTo(x, "1<2", -1, -1), 1);
        due("2<2", comesTo(x, "2<2", -1, -1), 0);
        due("0-5<0&1", comesTo(x, "0-5<0&1", -1, -1), 1);
        x.go(1, 0);
        due("t on the road", comesTo(x, "t", 1, -1), 10);
        law(x, 0, 0, "d");
        x.strike(0);
        due("says(0, -1, -1) of one STRUCK", x.says(0, -1, -1), 60);
        due("says(1, -1, -1)", x.says(1, -1, -1), BEYOND);
        due("says(0, 2, -1)", x.says(0, 2, -1), BEYOND);
        due("says(0, -2, -1)", x.says(0, -2, -1), BEYOND);
        due("says(0, -1, 1)", x.says(0, -1, 1), BEYOND);
        due("says(0, -1, -2)", x.says(0, -1, -2), BEYOND);
    }

    private static void p22() {
        SealCouncil x = row(2);
        x.person(1, 0, 0, 0);
        x.person(1, -1, 0, 0);
        due("draw(2, 0, 0)", x.draw(2, 0, 0), BEYOND);
        due("draw(0, 5, 0)", x.draw(0, 5, 0), BEYOND);
        due("draw(0, -1, 0)", x.draw(0, -1, 0), BEYOND);
        due("draw(0, 0, 1000)", x.draw(0, 0, 1000), BEYOND);
        due("draw(0, 0, -1)", x.draw(0, 0, -1), BEYOND);
        x.go(1, 1);
        due("draw on the road", x.draw(1, 0, 0), STATE);
        x.days(1);
        due("draw(1, 4, 999)", x.draw(1, 4, 999), 0);
        x.die(1);
        due("draw by one dead", x.draw(1, 0, 0), STATE);
        for (int i = 1; i < 40; i++) {
            due("draw " + i, x.draw(0, 0, 0), i);
        }
        due("draw 40", x.draw(0, 0, 0), FULL);
        due("draw by one dead", x.draw(1, 0, 0), STATE);
    }

    private static void p23() {
        SealCouncil x = row(2);
        for (int i = 0; i < 3; i++) {
            x.person(1, -i, 0, 0);
        }
        x.power(2, 0, 1);
        x.power(3, 0, 1);
        x.power(2, -1, 1);
        x.power(2, 1, 1);
        x.draw(0, 0, 1);
        due("press(1, 0)", x.press(1, 0), BEYOND);
        due("press(0, 4)", x.press(0, 4), BEYOND);
        due("press(0, 1)", x.press(0, 1), KIND);
        due("press(0, 2)", x.press(0, 2), STATE);
        due("press(0, 0)", x.press(0, 0), 1);
        due("press(0, 3)", x.press(0, 3), 2);
        due("a COPY's MARK is there already", x.press(0, x.copy(0)), 2);
        due("MARKS", x.letter(0, 3), 9);
        x.lend(0, 2, 9);
        x.go(2, 1);
        due("who has it is on the road", x.press(0, 0), STATE);
        x.days(1);
        due("who has it is elsewhere", x.press(0, 0), STATE);
        x.send(0, 0);
        due("it was SENT", x.press(0, 3), STATE);
        due("SENT, and no SEAL", x.press(0, 1), KIND);
    }

    private static void p24() {
        SealCouncil x = row(3);
        x.town();
        for (int i = 0; i < 4; i++) {
            x.person(1, -i, 0, i);
        }
        x.person(1, -9, 0, 1);
        x.draw(0, 0, 1);
        x.draw(0, 0, 1);
        due("send(2, 0)", x.send(2, 0), BEYOND);
        due("send(0, 5)", x.send(0, 5), BEYOND);
        due("send(0, -1)", x.send(0, -1), BEYOND);
        due("send(0, 3)", x.send(0, 3), NONE);
        due("send(0, 2)", x.send(0, 2), 2);
        due("send(0, 2)", x.send(0, 2), STATE);
        x.go(1, 2);
        due("to one on the road", x.send(1, 1), STATE);
        x.die(4);
        due("to one dead", x.send(1, 4), STATE);
        due("to where it lies", x.send(1, 0), 0);
        x.days(1);
        due("from where it lies", x.send(x.draw(1, 0, 0), 0), 3);
    }

    private static void p25() {
        SealCouncil x = row(3);
        x.person(1, 0, 0, 0);
        x.person(1, -720, 0, 2);
        law(x, 1, 0, "y>0|o=4|a>2");
        x.draw(0, 0, 1);
        due("open(1)", x.open(1), BEYOND);
        due("it wasn't SENT", x.open(0), STATE);
        x.send(0, 1);
        due("isn't there yet", x.open(0), STATE);
        x.days(2);
        x.go(1, 1);
        due("it is on the road", x.open(0), STATE);
        x.days(1);
        due("isn't in that TOWN", x.open(0), STATE);
        x.go(1, 2);
        x.days(1);
        due("it isn't GOOD", x.open(0), 0);
        due("was OPENED", x.open(0), STATE);
        law(x, 1, 0, "1");
        x.draw(0, 0, 1);
        x.send(1, 1);
        x.draw(0, 4, 1);
        x.send(2, 1);
        x.days(1);
        x.draw(0, 0, 1);
        x.send(3, 1);
        x.days(1);
        x.die(0);
        due("the new LAW is KNOWN", x.open(1), 1);
        due("open(2)", x.open(2), 1);
        x.days(1);
        x.die(1);
        due("the PERSON is dead", x.open(3), STATE);
        SealCouncil z = row(2);
        z.person(1, 0, 0, 0);
        z.person(1, 0, 0, 1);
        z.draw(1, 0, 1);
        law(z, 1, 0, "0");
        z.send(0, 1);
        due("as KNOWN to it no LAW is there yet", z.open(0), 1);
    }

    private static void p26() {
        SealCouncil x = row(3);
        x.town();
        x.person(1, 0, 0, 0);
        x.person(1, -9, 0, 0);
        due("obey(0)", x.obey(0), BEYOND);
        x.draw(0, 0, 999);
        due("it wasn't OPENED", x.obey(0), STATE);
        x.send(0, 1);
        due("it wasn't OPENED", x.obey(0), STATE);
        x.open(0);
        due("SORT 0", x.obey(0), 1);
        due("was OBEYED", x.obey(0), STATE);
        due("COIN", x.about(1, 1), 999);
        int dear = opened(x, 0, 2, 1);
        due("THE CHEST has less", x.obey(dear), NONE);
        due("not OBEYED then", x.letter(dear, 8), 0);
        x.days(1);
        int afar = opened(x, 1, 7, 1);
        due("no way leads there", x.obey(afar), NONE);
        due("SORT 1", x.obey(opened(x, 1, 998, 1)), 3);
        due("on the road", x.about(1, 0), -1);
        x.days(1);
        int more = opened(x, 1, 1, 0);
        x.go(0, 1);
        due("it is on the road", x.obey(more), NONE);
        x.days(1);
        due("it was, and goes to where it is", x.obey(more), 3);
        x.go(0, 0);
        x.days(1);
        x.power(2, -1, 1);
        due("no such POWER", x.obey(opened(x, 2, 1, 0)), NONE);
        due("nobody was HOLDER", x.obey(opened(x, 2, 0, 0)), -1);
        x.lend(0, 1, 99);
        due("who was HOLDER", x.obey(opened(x, 2, 0, 0)), 0);
        due("LENT no more", x.held(0, 2), 0);
        law(x, 2, 0, "1");
        due("no such LAW", x.obey(opened(x, 3, 1, 0)), NONE);
        due("SORT 3", x.obey(opened(x, 3, 0, 0)), 1);
        due("STRUCK", x.strike(0), STATE);
        due("that is STRUCK", x.obey(opened(x, 3, 0, 0)), NONE);
        x.seat(0, true);
        x.promise(0, 0, 99, true);
        x.promise(0, 1, 99, false);
        x.promise(0, 2, x.count(8), true);
        x.promise(0, 0, 99, true);
        due("how many stood", x.obey(opened(x, 4, 0, 0)), 3);
        due("they are BROKEN", x.breaks(3), STATE);
        due("the least that was BROKEN", x.cause(0, 3), 3);
        due("none stood", x.obey(opened(x, 4, 0, 0)), 0);
        law(x, 1, 0, "o");
        int bad = opened(x, 0, 1, 0);
        due("it isn't GOOD", x.obey(bad), KIND);
        int late = opened(x, 4, 0, 0);
        x.die(0);
        due("the PERSON is dead", x.obey(late), STATE);
        due("dead, and it isn't GOOD", x.obey(bad), STATE);
    }

    private static void p27() {
        SealCouncil x = row(2);
        for (int i = 0; i < 5; i++) {
            x.person(1, -i, 0, i == 4 ? 1 : 0);
        }
        x.power(2, 0, 1);
        x.power(2, 1, 1);
        x.copy(0);
        x.give(2, 2);
        x.draw(3, 4, 77);
        due("letter(1, 0)", x.letter(1, 0), BEYOND);
        due("letter(0, 10)", x.letter(0, 10), BEYOND);
        due("letter(0, -1)", x.letter(0, -1), BEYOND);
        int[] first = {3, 4, 77, 0, -1, -1, -1, -1, 0, 15};
        for (int what = 0; what < 10; what++) {
            due("letter(0, " + what + ")", x.letter(0, what), first[what]);
        }
        x.press(0, 0);
        due("COULD", x.letter(0, 9), 5);
        x.lend(2, 3, 0);
        due("COULD stays", x.letter(0, 9), 5);
        x.press(0, 0);
        due("those that are in all", x.letter(0, 9), 1);
        x.press(0, 1);
        due("nobody had both", x.letter(0, 9), 0);
        due("MARKS", x.letter(0, 3), 3);
        x.send(0, 4);
        due("SENT to", x.letter(0, 4), 4);
        due("there", x.letter(0, 5), 1);
        x.days(1);
        due("ahead of that", x.letter(0, 7), -1);
        x.open(0);
        due("OPENED", x.letter(0, 6), 1);
        due("GOOD", x.letter(0, 7), 1);
        x.obey(0);
        due("OBEYED", x.letter(0, 8), 1);
        x.die(3);
        x.draw(2, 0, 0);
        due("who lives and is there COULD", x.letter(1, 9), 7);
    }

    private static void p28() {
        SealCouncil x = court(2);
        due("days(0)", x.days(0), BEYOND);
        due("days(-1)", x.days(-1), BEYOND);
        due("days(401)", x.days(401), BEYOND);
        x.rent(0, 10);
        due("days(89)", x.days(89), 89);
        due("THE CHEST", x.count(9), 1000);
        due("days(1)", x.days(1), 90);
        due("RENT", x.count(9), 1010);
        due("days(400)", x.days(400), 490);
        due("RENTS", x.count(9), 1050);
        x.own(0, 1);
        x.men(1, 4);
        x.days(50);
        due("COIN less MEN's", x.about(1, 1), 6);
        due("MEN that are paid", x.about(1, 2), 4);
        x.men(1, 90);
        x.days(90);
        due("as far as it goes", x.about(1, 1), 0);
        due("MEN that are paid stay", x.about(1, 2), 16);
        x.die(1);
        x.days(90);
        due("an OWNER that is dead", x.count(9), 1060);
        due("who was OWNER", x.own(0, -1), 1);
        x.days(400);
        x.days(400);
        x.days(400);
        due("days(81)", x.days(81), BEYOND);
        due("days(80)", x.days(80), 2000);
        due("days(1)", x.days(1), BEYOND);
    }

    private static void p29() {
        SealCouncil x = row(1);
        due("rent(1, 0)", x.rent(1, 0), BEYOND);
        due("rent(0, 1000)", x.rent(0, 1000), BEYOND);
        due("rent(0, -1)", x.rent(0, -1), BEYOND);
        due("rent(0, 999)", x.rent(0, 999), 0);
        due("rent(0, 0)", x.rent(0, 0), 999);
    }

    /** THE CHEST is empty, and TOWN 0 is FORFEIT on day 180. */
    private static SealCouncil forfeit() {
        SealCouncil x = court(3);
        x.pay(2, 1000);
        x.debt(1000, 10, 0);
        x.pay(2, 1000);
        x.days(180);
        return x;
    }

    private static void p30() {
        SealCouncil x = court(2);
        due("own(1, 0)", x.own(1, 0), BEYOND);
        due("own(0, 2)", x.own(0, 2), BEYOND);
        due("own(0, -2)", x.own(0, -2), BEYOND);
        due("own(0, 1)", x.own(0, 1), -1);
        due("own(0, 0)", x.own(0, 0), 1);
        due("own(0, -1)", x.own(0, -1), 0);
        x.die(1);
        due("own(0, 1)", x.own(0, 1), BEYOND);
        SealCouncil z = forfeit();
        due("own(0, 1) of one FORFEIT", z.own(0, 1), STATE);
        due("own(0, 9) of one FORFEIT", z.own(0, 9), BEYOND);
    }

    private static void p31() {
        SealCouncil x = row(3);
        due("rents(4, 8)", x.rents(4, 8), BEYOND);
        due("rents(-1, 8)", x.rents(-1, 8), BEYOND);
        due("rents(0, 0)", x.rents(0, 0), BEYOND);
        due("rents(0, 24)", x.rents(0, 24), BEYOND);
        due("rents(0, 8)", x.rents(0, 8), NONE);
        x.sheet(0, 8, 4);
        due("rents(0, 16)", x.rents(0, 16), KIND);
        due("rents(0, 8)", x.rents(0, 8), STATE);
        x.sheet(0, 8, 3);
        x.put(0, 0, 127);
        x.put(0, 1, 255);
        x.put(0, 2, -2);
        due("rents(0, 8)", x.rents(0, 8), BEYOND);
        due("nothing changed", x.rent(0, 5), 0);
        x.put(0, 2, 9);
        x.rent(1, 44);
        due("rents(0, 8)", x.rents(0, 8), 2);
        due("RENT 0", x.rent(0, 0), 127);
        due("RENT 1", x.rent(1, 0), 44);
        due("RENT 2", x.rent(2, 0), 9);
        sheetOf(x, 1, 999, 1000);
        due("rents(1, 32)", x.rents(1, 32), BEYOND);
        sheetOf(x, 1, 999);
        due("rents(1, 32)", x.rents(1, 32), 1);
        due("RENT 0", x.rent(0, 0), 999);
        due("RENT 2 as it is", x.rent(2, 0), 0);
        x.sheet(2, 16, 0);
        due("rents of none", x.rents(2, 16), 0);
    }

    private static void p32() {
        SealCouncil x = row(1);
        due("debt(-1, 1, 0)", x.debt(-1, 1, 0), BEYOND);
        due("debt(100000, 1, 0)", x.debt(100000, 1, 0), BEYOND);
        due("debt(1, 0, 0)", x.debt(1, 0, 0), BEYOND);
        due("debt(1, 10000, 0)", x.debt(1, 10000, 0), BEYOND);
        due("debt(1, -1, 0)", x.debt(1, -1, 0), BEYOND);
        due("debt(1, 1000001, 0)", x.debt(1, 1000001, 0), BEYOND);
        due("debt(1, 1, 1)", x.debt(1, 1, 1), BEYOND);
        due("debt(99999, 999999, 0)", x.debt(99999, 999999, 0), 0);
        due("THE CHEST", x.count(9), 100999);
        for (int i = 1; i < 6; i++) {
            due("debt " + i, x.debt(0, 1, 0), i);
        }
        due("debt 6", x.debt(0, 1, 0), FULL);
        due("debt 6 of no terms", x.debt(0, 0, 0), BEYOND);
    }

    private static void p33() {
        SealCouncil x = forfeit();
        x.town();
        x.debt(0, 5, 0);
        x.debt(0, 5, 1);
        due("owed(3, 0)", x.owed(3, 0), BEYOND);
        due("owed(0, 4)", x.owed(0, 4), BEYOND);
        due("owed(0, -1)", x.owed(0, -1), BEYOND);
        due("OWED", x.owed(0, 0), 1000);
        due("MISSED", x.owed(0, 1), 2);
        due("FORFEIT", x.owed(0, 2), 1);
        due("by whichever DEBT", x.owed(1, 2), 1);
        due("another pledge", x.owed(2, 2), 0);
        due("the same pledge", x.owed(0, 3), 2);
        due("its own alone", x.owed(2, 3), 1);
        x.rent(0, 50);
        x.days(90);
        due("RENT of one FORFEIT", x.count(9), 0);
        due("MISSED", x.owed(0, 1), 3);
        due("of which nothing is OWED", x.owed(1, 1), 0);
        SealCouncil z = row(1);
        z.debt(99999, 999999, 0);
        z.days(90);
        due("199 parts in a hundred, less DUE", z.owed(0, 0), 198998 - 9999);
        z.days(270);
        due("999999 at most", z.owed(0, 0), 999999 - 9999);
        SealCouncil y = row(1);
        y.debt(15, 10010, 0);
        y.days(90);
        due("RATE's part is cut", y.owed(0, 0), 5);
        y.days(90);
        due("OWED is less than DUE", y.owed(0, 0), 0);
        due("THE CHEST", y.count(9), 1000);
    }

    private static void p34() {
        SealCouncil x = court(12);
        due("seat(12, true)", x.seat(12, true), BEYOND);
        due("seat(-1, false)", x.seat(-1, false), BEYOND);
        due("seat(0, false)", x.seat(0, false), STATE);
        x.die(11);
        due("seat(11, true)", x.seat(11, true), STATE);
        for (int i = 0; i < 9; i++) {
            due("seat " + i, x.seat(i, true), i + 1);
        }
        due("seat(9, true)", x.seat(9, true), FULL);
        due("seat(8, true)", x.seat(8, true), STATE);
        due("seat(0, false)", x.seat(0, false), 8);
        due("seat(9, true)", x.seat(9, true), 9);
    }

    private static void p35() {
        SealCouncil x = court(2);
        x.seat(0, true);
        x.days(5);
        due("promise(2, 0, 9, true)", x.promise(2, 0, 9, true), BEYOND);
        due("promise(0, 6, 9, true)", x.promise(0, 6, 9, true), BEYOND);
        due("promise(0, -1, 9, true)", x.promise(0, -1, 9, true), BEYOND);
        due("promise(0, 0, 4, true)", x.promise(0, 0, 4, true), BEYOND);
        due("promise(0, 0, 2001, true)", x.promise(0, 0, 2001, true), BEYOND);
        due("promise(1, 0, 9, true)", x.promise(1, 0, 9, true), STATE);
        due("promise(0, 0, 5, true)", x.promise(0, 0, 5, true), 0);
        due("it counts", x.cause(0, 0), 1);
        due("one behind it", x.promise(0, 0, 9, false), 1);
        due("it counts no more", x.cause(0, 0), 0);
        due("it stands no more", x.breaks(0), STATE);
        for (int i = 2; i < 30; i++) {
            due("promise " + i, x.promise(0, i % 6, 2000, true), i);
        }
        due("promise 30", x.promise(0, 0, 9, true), FULL);
        due("promise 30 of one not SEATED", x.promise(1, 0, 9, true), STATE);
    }

    private static void p36() {
        SealCouncil x = court(2);
        x.seat(0, true);
        due("breaks(0)", x.breaks(0), BEYOND);
        x.promise(0, 0, 3, true);
        x.promise(0, 1, 2, true);
        due("breaks(-1)", x.breaks(-1), BEYOND);
        x.days(3);
        due("its day is past", x.breaks(1), STATE);
        due("its day is that", x.breaks(0), 1);
        due("it is BROKEN", x.breaks(0), STATE);
        due("the first of all", x.cause(0, 3), 0);
        x.promise(0, 2, 9, true);
        x.seat(0, false);
        x.seat(0, true);
        due("it was SEATED no more", x.breaks(2), STATE);
    }

    private static void p37() {
        SealCouncil x = court(4);
        due("cause(6, 0)", x.cause(6, 0), BEYOND);
        due("cause(-1, 0)", x.cause(-1, 0), BEYOND);
        due("cause(0, 4)", x.cause(0, 4), BEYOND);
        due("cause(0, -1)", x.cause(0, -1), BEYOND);
        due("none SEATED", x.cause(0, 1), 0);
        due("none SEATED", x.cause(0, 2), 0);
        for (int kind = 0; kind < 6; kind++) {
            x.power(kind, 1, 1);
        }
        for (int i = 1; i < 4; i++) {
            x.seat(i, true);
        }
        due("all WEIGHTS", x.cause(0, 1), 6);
        x.promise(2, 0, 9, true);
        x.promise(3, 0, 9, true);
        due("WEIGHTS for it", x.cause(0, 0), 2);
        due("not CARRIED", x.cause(0, 2), 0);
        x.promise(1, 1, 9, true);
        due("CARRIED", x.cause(1, 2), 1);
        x.give(4, 2);
        due("half is not more than half", x.cause(0, 0) * 10 + x.cause(0, 2), 30);
        x.breaks(2);
        x.breaks(1);
        due("BROKEN", x.cause(1, 3), 2);
        due("BROKEN", x.cause(0, 3), 1);
        due("none BROKEN", x.cause(2, 3), -1);
        x.promise(1, 5, 9, true);
        due("the last CAUSE", x.cause(5, 0), 3);
        SealCouncil z = row(2);
        z.person(1, 0, 0, 1);
        z.person(1, -9000, 0, 0);
        z.seat(0, true);
        z.seat(1, true);
        law(z, 0, 0, "a>20");
        due("not KNOWN to the first yet", z.cause(0, 1), 2);
        z.days(1);
        due("KNOWN to it", z.cause(0, 1), 1);
    }

    private static void p38() {
        SealCouncil x = court(1);
        due("price(1, 1)", x.price(1, 1), BEYOND);
        due("price(0, 0)", x.price(0, 0), BEYOND);
        due("price(0, 1000)", x.price(0, 1000), BEYOND);
        due("price(0, 999)", x.price(0, 999), 1);
        due("price(0, 5)", x.price(0, 5), 999);
        due("about(0, 9)", x.about(0, 9), 5);
    }

    /** SEATED PERSONS with so many OFFICES and such PRICES, of which the first has promised for CAUSE 0. */
    private static SealCouncil weighted(int[] offices, int[] prices) {
        SealCouncil x = court(offices.length);
        for (int i = 0; i < offices.length; i++) {
            x.seat(i, true);
            x.price(i, prices[i]);
            for (int j = 0; j < offices[i]; j++) {
                x.power(1, i, 0);
            }
        }
        x.promise(0, 0, 9, true);
        return x;
    }

    private static void p39() {
        SealCouncil x = court(6);
        due("buying(6, 0)", x.buying(6, 0), BEYOND);
        due("buying(0, 2)", x.buying(0, 2), BEYOND);
        due("buying(0, -1)", x.buying(0, -1), BEYOND);
        due("none SEATED", x.buying(0, 0), NONE);
        for (int i = 1; i < 6; i++) {
            x.seat(i, true);
        }
        due("PRICES", x.buying(0, 0), 3);
        due("the least as bits", x.buying(0, 1), 14);
        x.price(1, 2);
        due("the least PRICES", x.buying(0, 1), 28);
        x.power(1, 5, 0);
        x.power(1, 5, 0);
        x.price(5, 2);
        due("PRICES", x.buying(0, 0), 3);
        due("one with an OFFICE", x.buying(0, 1), 36);
        x.price(2, 2);
        x.price(3, 2);
        x.price(4, 2);
        x.price(5, 6);
        due("of several the fewest, then the least", x.buying(0, 1), 34);
        x.promise(1, 0, 9, false);
        x.promise(5, 0, 9, true);
        due("who promised against", x.buying(0, 1), 2);
        x.promise(2, 0, 9, true);
        due("it is CARRIED", x.buying(0, 0), 0);
        due("by none more", x.buying(0, 1), 0);
        due("the last CAUSE", x.buying(5, 1), 34);
        law(x, 0, 0, "0");
        due("no set is enough", x.buying(0, 1), NONE);
        // WEIGHTS 1, 1, 2, 2, 3 of 9, the first having promised: {1, 4} and {2, 3} are level but for bits.
        SealCouncil z = weighted(new int[] {0, 0, 1, 1, 2}, new int[] {1, 1, 3, 3, 5});
        due("PRICES", z.buying(0, 0), 6);
        due("not {1, 4}, which is more as bits", z.buying(0, 1), 12);
        // WEIGHTS 1, 1, 1, 2 of 5: {3} and {1, 2} have one PRICE.
        SealCouncil y = weighted(new int[] {0, 0, 0, 1}, new int[] {1, 1, 1, 2});
        due("PRICES", y.buying(0, 0), 2);
        due("the fewest, though more as bits", y.buying(0, 1), 8);
    }

    private static void p40() {
        SealCouncil x = new SealCouncil();
        due("guard(5, 0)", x.guard(5, 0), BEYOND);
        due("guard(-1, 0)", x.guard(-1, 0), BEYOND);
        due("guard(0, 7)", x.guard(0, 7), BEYOND);
        due("guard(0, -1)", x.guard(0, -1), BEYOND);
        due("guard(4, 6)", x.guard(4, 6), 0);
        due("guard(4, 0)", x.guard(4, 0), 6);
    }

    private static void p41() {
        SealCouncil x = new SealCouncil();
        due("night(0, 1, 0, 0)", x.night(0, 1, 0, 0), BEYOND);
        due("night(21, 1, 0, 0)", x.night(21, 1, 0, 0), BEYOND);
        due("night(1, 0, 0, 0)", x.night(1, 0, 0, 0), BEYOND);
        due("night(1, 4, 0, 0)", x.night(1, 4, 0, 0), BEYOND);
        due("night(1, 1, 5, 0)", x.night(1, 1, 5, 0), BEYOND);
        due("night(1, 1, -1, 0)", x.night(1, 1, -1, 0), BEYOND);
        due("night(1, 1, 0, 2)", x.night(1, 1, 0, 2), BEYOND);
        due("night(1, 1, 0, -1)", x.night(1, 1, 0, -1), BEYOND);
        due("one HOUR for GATE 1", x.night(20, 1, 1, 0), 0);
        due("three HOURS for GATE 3", x.night(20, 3, 3, 0), 0);
        due("none guard", x.night(1, 3, 2, 0), 1);
        x.guard(0, 6);
        due("as many as GUARDS", x.night(6, 1, 0, 0), 0);
        due("more than GUARDS", x.night(7, 1, 0, 0), 1);
        due("the first", x.night(7, 1, 0, 1), 0);
        due("they don't win", x.night(6, 3, 0, 1), NONE);
        x.guard(0, 0);
        x.guard(1, 1);
        x.guard(2, 1);
        due("a GUARD comes from GATE 2", x.night(2, 2, 1, 0), 0);
        due("a GUARD comes from GATE 2", x.night(3, 2, 1, 0), 1);
        x.guard(1, 6);
        due("6 at most there", x.night(7, 2, 1, 0), 1);
        due("GUARDS stay after all", x.guard(1, 0), 6);
        // A GUARD of GATE 4 is at GATE 2 by the third HOUR.
        SealCouncil z = new SealCouncil();
        z.guard(4, 1);
        due("from GATE 4 to GATE 2", z.night(1, 3, 2, 0), 0);
        due("from GATE 4 to GATE 2", z.night(2, 3, 2, 0), 1);
        z.guard(4, 0);
        due("none is there to come", z.night(1, 3, 2, 0), 1);
    }

    private static void p42() {
        SealCouncil x = row(2);
        x.person(1, -9000, 0, 0);
        x.person(0, -9000, 0, 0);
        x.person(1, -3000, 102, 0);
        x.person(0, -4000, 102, 1);
        x.person(1, -3000, 100, 0);
        x.person(1, -9000, 0, 0);
        int[] line = {3, 2, 4, 1};
        for (int i = 0; i < 4; i++) {
            due("heir(" + i + ")", x.heir(i), line[i]);
        }
        due("heir(4)", x.heir(4), NONE);
        due("heir(-1)", x.heir(-1), BEYOND);
        x.die(2);
        due("living ones", x.heir(1), 4);
        law(x, 2, 0, "s=1");
        due("by the law", x.heir(0), 4);
        due("by the law", x.heir(1), NONE);
        law(x, 2, 1, "0");
        due("for days from one on", x.heir(0), 4);
        x.days(1);
        due("on that DAY", x.heir(0), NONE);
    }

    private static void p43() {
        SealCouncil x = row(1);
        due("no CHILD", x.age(), NONE);
        x.person(1, 0, 0, 0);
        due("without a law", x.age(), 0);
        law(x, 3, 0, "a>2");
        due("a", x.age(), 1080);
        x.days(5);
        due("a", x.age(), 1080);
        law(x, 3, 700, "1");
        due("a LAW for later days", x.age(), 700);
        law(x, 3, 700, "d=2000");
        due("the last day", x.age(), 2000);
        law(x, 3, 0, "d>2000");
        due("no such day", x.age(), NONE);
        x.strike(3);
        due("STRUCK", x.age(), 2000);
        law(x, 3, 6, "0");
        due("ahead of these none is for the DAY", x.age(), NONE);
        SealCouncil y = row(1);
        y.person(1, -100, 0, 0);
        law(y, 3, 0, "a=3");
        due("a year behind its birth", y.age(), 980);
        law(y, 3, 0, "0");
        law(y, 3, 2000, "1");
        due("a LAW for the last day", y.age(), 2000);
        SealCouncil z = court(1);
        law(z, 3, 9, "0");
        due("no LAW for the DAY", z.age(), 0);
        z.days(9);
        due("it is for the DAY", z.age(), NONE);
    }

    private static void p44() {
        SealCouncil x = row(1);
        x.person(1, 0, 0, 0);
        x.person(1, -3000, 0, 0);
        x.power(1, 1, 1);
        x.power(2, -1, 1);
        due("after(2)", x.after(2), BEYOND);
        due("after(-1)", x.after(-1), BEYOND);
        due("without a law", x.after(0), 1);
        law(x, 3, 0, "a=1");
        law(x, 4, 0, "a>8");
        due("its HOLDER's AGE then", x.after(0), 1);
        due("of no PERSON", x.after(1), 0);
        law(x, 4, 360, "d-360+2-k");
        due("of one POWER", x.after(0), 1);
        due("asked anew", x.after(1), 2);
        law(x, 4, 361, "0");
        due("in force on that day", x.after(1), 2);
        law(x, 4, 0, "0-1");
        due("below 0", x.after(0), 2);
        law(x, 3, 0, "0");
        due("no such day", x.after(0), NONE);
        due("after(2)", x.after(2), BEYOND);
    }

    private static void p45() {
        SealCouncil x = court(2);
        x.town();
        due("plan(4, -1)", x.plan(4, -1), BEYOND);
        due("plan(-1, -1)", x.plan(-1, -1), BEYOND);
        due("plan(0, -1)", x.plan(0, -1), NONE);
        x.sheet(0, 32, 0);
        due("no numbers", x.plan(0, -1), BEYOND);
        x.sheet(0, 32, 9);
        due("nine numbers", x.plan(0, -1), BEYOND);
        sheetOf(x, 0, 0, -1);
        due("a COST below 0", x.plan(0, -1), BEYOND);
        sheetOf(x, 0, 0, 10000);
        due("a COST above 9999", x.plan(0, -1), BEYOND);
        sheetOf(x, 0, 0, 900);
        due("plan(0, 2)", x.plan(0, 2), BEYOND);
        due("plan(0, -2)", x.plan(0, -2), BEYOND);
        due("what it leaves", x.plan(0, -1), 100);
        due("none is pledged", x.plan(0, 0), -1);
        x.rent(0, 100);
        x.rent(1, 200);
        due("RENTS come in", x.plan(0, -1), 1000 + 600 - 900 + 2400);
        sheetOf(x, 0, 1300, 700);
        due("one must be pledged", x.plan(0, -1), 1300 - 1300 + 300 + 400 - 700 + 1600);
        due("not yet", x.plan(0, 0), -1);
        due("the lesser loss", x.plan(0, 1), 0);
        sheetOf(x, 0, 1300, 701);
        due("the TOWN that is enough", x.plan(0, 1), 1);
        sheetOf(x, 0, 1301, 0);
        due("ahead of its RENT", x.plan(0, 0), 0);
        sheetOf(x, 0, 1300, 2000);
        due("no PLAN can be", x.plan(0, -1), STATE);
        due("no PLAN can be", x.plan(0, 1), STATE);
        x.own(0, 1);
        sheetOf(x, 0, 1200, 201);
        due("another's TOWN is none of these", x.plan(0, 1), 1);
        x.rent(1, 0);
        sheetOf(x, 0, 1001);
        due("nothing is to be had", x.plan(0, 0), STATE);
        sheetOf(x, 0, 1000);
        due("of several none is pledged", x.plan(0, 0), -1);
        due("nothing is left", x.plan(0, -1), 0);
        SealCouncil z = row(8);
        for (int i = 0; i < 8; i++) {
            z.rent(i, 10);
        }
        sheetOf(z, 1, 1061, 0);
        due("the lesser TOWN", z.plan(1, 0), 0);
        due("TOWNS 0 .. 5 alone", z.plan(1, -1), 1000 + 60 + 40 - 1061 + 50 + 400);
        // Each COST is all that there is if one more TOWN is pledged: all six are, by numbers.
        sheetOf(z, 2, 1100, 90, 80, 70, 60, 50);
        due("all are pledged", z.plan(2, -1), 0);
        for (int i = 0; i < 6; i++) {
            due("by numbers", z.plan(2, i), i);
        }
        // A TOWN that is enough for both QUARTERS leaves more than two that are pledged one by one.
        SealCouncil y = row(3);
        y.rent(0, 20);
        y.rent(1, 30);
        y.rent(2, 20);
        sheetOf(y, 0, 1110, 120);
        due("it leaves more", y.plan(0, -1), 1000 + 70 + 120 - 1110 + 40 - 120 + 320);
        due("the TOWN that is enough", y.plan(0, 0), 1);
        due("none then", y.plan(0, 1), -1);
        SealCouncil f = forfeit();
        f.town();
        f.rent(0, 50);
        f.rent(1, 3);
        sheetOf(f, 3, 3);
        due("one FORFEIT is none of these", f.plan(3, -1), 24);
    }

    private static void p46() {
        SealCouncil x = court(1);
        for (int kind = 0; kind < 6; kind++) {
            x.power(kind, 0, 10 + kind);
        }
        due("voice(6, 0, 0)", x.voice(6, 0, 0), BEYOND);
        due("voice(0, 4, 0)", x.voice(0, 4, 0), BEYOND);
        due("voice(0, -1, 0)", x.voice(0, -1, 0), BEYOND);
        // Rows by KIND: act, bind, rank, tell of 100, worked out by hand.
        int[][] want = {
            {110, 220, 100, 220 ^ 100},
            {112, 224, 99, 226 ^ 100},
            {112, 224, 294, 224 ^ 294},
            {116, 116, 97, 117 ^ 98},
            {104, 104, 96, 96 - (105 ^ 97)},
            {115, 245, 95, 245 ^ 95},
        };
        for (int kind = 0; kind < 6; kind++) {
            for (int act = 0; act < 4; act++) {
                due("voice(" + kind + ", " + act + ", 100)", x.voice(kind, act, 100), want[kind][act]);
            }
        }
        due("it goes round", x.voice(0, 0, 2147483647), -2147483648 + 9);
        int found = x.found(1);
        due("a number like BEYOND", x.voice(0, 0, BEYOND - 10), BEYOND);
        due("is no finding", x.found(1), found);
    }

    private static void p47() {
        SealCouncil x = court(1);
        for (int kind = 0; kind < 6; kind++) {
            x.power(kind, 0, 0);
        }
        int[] bodies = {51, 12, 21, 13, 40, 11, 50, 20, 10, 50, 20, 10, 12};
        x.voice(4, 3, 5);
        due("count(12)", x.count(12), bodies.length);
        for (int i = 0; i < bodies.length; i++) {
            due("trace(" + i + ")", x.trace(i), bodies[i]);
        }
        due("trace(13)", x.trace(13), NONE);
        due("trace(-1)", x.trace(-1), NONE);
        x.voice(9, 0, 0);
        due("a finding leaves it", x.count(12), 13);
        x.voice(5, 1, 0);
        due("trace(0)", x.trace(0), 60);
        due("trace(1)", x.trace(1), 11);
        due("trace(2)", x.trace(2), 10);
        due("trace(3)", x.trace(3), NONE);
        x.voice(2, 2, 0);
        due("trace(0)", x.trace(0), 30);
        due("trace(1)", x.trace(1), 12);
    }

    private static void p48() {
        SealCouncil x = row(1);
        due("sheet(4, 8, 1)", x.sheet(4, 8, 1), BEYOND);
        due("sheet(-1, 8, 1)", x.sheet(-1, 8, 1), BEYOND);
        due("sheet(0, 9, 1)", x.sheet(0, 9, 1), BEYOND);
        due("sheet(0, 9, -1)", x.sheet(0, 9, -1), BEYOND);
        due("sheet(0, 8, -1)", x.sheet(0, 8, -1), STATE);
        due("sheet(0, 8, 25)", x.sheet(0, 8, 25), BEYOND);
        due("still missing", x.put(0, 0, 0), NONE);
        due("sheet(0, 8, 24)", x.sheet(0, 8, 24), 1);
        due("put(0, 23, 1)", x.put(0, 23, 1), 1);
        due("sheet(0, 16, 1)", x.sheet(0, 16, 1), 1);
        x.put(0, 0, 5);
        due("sheet(0, 16, 1)", x.sheet(0, 16, 1), 1);
        x.rent(0, 7);
        x.rents(0, 16);
        due("all 0", x.rent(0, 7), 0);
        due("sheet(0, 0, -5)", x.sheet(0, 0, -5), 1);
        due("missing", x.put(0, 0, 0), NONE);
        due("sheet(3, 0, 99)", x.sheet(3, 0, 99), 1);
        due("sheet(3, 32, 0)", x.sheet(3, 32, 0), 1);
    }

    private static void p49() {
        SealCouncil x = row(2);
        due("put(4, 0, 0)", x.put(4, 0, 0), BEYOND);
        due("put(0, 9, 0)", x.put(0, 9, 0), NONE);
        x.sheet(0, 8, 2);
        due("put(0, 2, 0)", x.put(0, 2, 0), BEYOND);
        due("put(0, -1, 0)", x.put(0, -1, 0), BEYOND);
        due("put(0, 0, 256 + 17)", x.put(0, 0, 256 + 17), 1);
        due("put(0, 1, 255)", x.put(0, 1, 255), 1);
        due("its lowest bits", x.rents(0, 8), 1);
        due("its lowest bits", x.rent(0, 0), 17);
        x.sheet(1, 16, 1);
        x.put(1, 0, 65536 * 3 + 300);
        x.rents(1, 16);
        due("its lowest bits", x.rent(0, 0), 300);
        x.sheet(2, 32, 1);
        x.put(2, 0, 65536);
        due("all its bits", x.rents(2, 32), BEYOND);
    }

    private static void p50() {
        SealCouncil x = row(5);
        x.sheet(0, 32, 5);
        x.sheet(1, 16, 5);
        x.sheet(2, 32, 3);
        due("move(4, 0, 0, 0, 0)", x.move(4, 0, 0, 0, 0), BEYOND);
        due("move(0, 0, -1, 0, 0)", x.move(0, 0, -1, 0, 0), BEYOND);
        due("move(0, 0, 3, 0, -1)", x.move(0, 0, 3, 0, -1), NONE);
        due("move(0, 0, 1, 0, -1)", x.move(0, 0, 1, 0, -1), KIND);
        due("move(0, 0, 2, 0, -1)", x.move(0, 0, 2, 0, -1), BEYOND);
        due("move(0, -1, 2, 0, 1)", x.move(0, -1, 2, 0, 1), BEYOND);
        due("move(0, 0, 2, -1, 1)", x.move(0, 0, 2, -1, 1), BEYOND);
        due("move(0, 0, 2, 0, 4)", x.move(0, 0, 2, 0, 4), BEYOND);
        due("move(0, 5, 2, 0, 1)", x.move(0, 5, 2, 0, 1), BEYOND);
        due("move(0, 5, 2, 3, 0)", x.move(0, 5, 2, 3, 0), 0);
        due("move(0, 6, 2, 3, 0)", x.move(0, 6, 2, 3, 0), BEYOND);
        due("move(0, big, 2, 0, big)", x.move(0, 2147483647, 2, 0, 2147483647), BEYOND);
        sheetOf(x, 0, 1, 2, 3, 4, 5);
        due("upwards", x.move(0, 0, 0, 1, 4), 4);
        x.rents(0, 32);
        int[] up = {1, 1, 2, 3, 4};
        for (int i = 0; i < 5; i++) {
            due("upwards " + i, x.rent(i, 0), up[i]);
        }
        due("downwards", x.move(0, 2, 0, 0, 3), 3);
        due("to another", x.move(0, 1, 2, 0, 3), 3);
        x.rents(2, 32);
        int[] down = {3, 4, 3};
        for (int i = 0; i < 3; i++) {
            due("to another " + i, x.rent(i, 0), down[i]);
        }
    }

    private static void p51() {
        SealCouncil x = court(1);
        due("image()", x.image(), 1);
        x.days(4);
        due("image()", x.image(), 2);
        x.days(4);
        due("in place of one ahead", x.restore(), 4);
        due("how often stays", x.image(), 3);
    }

    private static void p52() {
        SealCouncil x = row(2);
        due("restore()", x.restore(), NONE);
        x.person(1, 0, 0, 0);
        x.person(1, -1, 0, 0);
        x.power(2, 0, 5);
        x.tell(1000);
        feed(x, "d");
        x.guard(2, 3);
        x.seat(0, true);
        x.draw(0, 0, 0);
        x.sheet(0, 8, 1);
        x.image();
        x.town();
        x.road(0, 1, 9);
        x.die(0);
        x.person(0, 0, 0, 1);
        x.give(0, 1);
        x.voice(0, 0, 0);
        x.check();
        x.law(1, 0);
        x.guard(2, 5);
        x.press(0, 0);
        x.send(0, 1);
        x.rent(0, 3);
        x.debt(5, 5, 0);
        x.price(1, 7);
        x.sheet(1, 8, 1);
        x.days(90);
        due("restore()", x.restore(), 0);
        due("restore()", x.restore(), 0);
        int[] counts = {2, 1, 2, 1, 0, 1, 0, 0, 0, 1000, 1, 1, 1, 1, 0, 0};
        for (int what = 0; what < counts.length; what++) {
            due("count(" + what + ")", x.count(what), counts[what]);
        }
        due("dead", x.about(0, 6), 0);
        due("HOLDER", x.held(0, 1), 0);
        due("GUARDS", x.guard(2, 0), 3);
        due("MARKS", x.letter(0, 3), 0);
        due("SENT", x.letter(0, 4), -1);
        due("RENT", x.rent(0, 0), 0);
        due("PRICE", x.price(1, 1), 1);
        due("a SHEET stays as it is now", x.put(1, 0, 1), 1);
        due("findings stay", x.found(2), 1);
        due("THE TAPE", law(x, 0, 0, ""), 0);
        due("what was on it", x.says(0, -1, -1), 0);
    }

    private static void p53() {
        SealCouncil x = new SealCouncil();
        for (int i = 1; i <= 20; i++) {
            due("tell " + i, x.tell(-i), i);
        }
        due("tell 21", x.tell(0), FULL);
        x.check();
        due("tell again", x.tell(5), 1);
    }

    private static void p54() {
        SealCouncil x = court(2);
        x.pay(0, 5);
        due("none wait", x.check(), 0);
        int[][] told = {{5}, {5, 0}, {5, 0, 995}, {4}, {5, 1}, {5, 0, 1000}, {5, 0, 995, 0}, {6, 0, 995, 0}};
        int[] want = {0, 0, 0, 1, 2, 3, 4, 1};
        for (int i = 0; i < told.length; i++) {
            for (int v : told[i]) {
                x.tell(v);
            }
            due("check " + i, x.check(), want[i]);
            due("none wait then", x.count(13), 0);
        }
    }

    private static void p55() {
        SealCouncil x = row(3);
        x.person(1, 0, 0, 0);
        x.person(1, -1, 0, 2);
        x.power(0, 0, 1);
        law(x, 0, 0, "1");
        feed(x, "12");
        x.draw(0, 0, 0);
        x.draw(0, 0, 0);
        x.send(0, 1);
        x.send(1, 0);
        x.debt(7, 5, 0);
        x.seat(0, true);
        x.promise(0, 0, 0, true);
        x.promise(0, 0, 0, true);
        x.pay(0, 30);
        x.pay(1, 12);
        x.tell(3);
        x.voice(0, 1, 0);
        x.days(1);
        int[] want = {3, 2, 2, 1, 1, 2, 1, 2, 1, 965, 2, 1, 2, 1, 42, 1};
        for (int what = 0; what < want.length; what++) {
            due("count(" + what + ")", x.count(what), want[what]);
        }
        x.days(1);
        due("LETTERS on their way", x.count(15), 0);
        due("count(16)", x.count(16), BEYOND);
        due("count(-1)", x.count(-1), BEYOND);
    }

    private static void p56() {
        SealCouncil x = new SealCouncil();
        due("found(0)", x.found(0), BEYOND);
        due("found(6)", x.found(6), BEYOND);
        due("found(-5)", x.found(-2147483648), BEYOND);
        due("found(1)", x.found(1), 3);
        x.restore();
        due("found(2)", x.found(2), 1);
        x.sheet(0, 8, -1);
        due("found(3)", x.found(3), 1);
        for (int i = 0; i <= 20; i++) {
            x.tell(0);
        }
        due("found(4)", x.found(4), 1);
        x.sheet(0, 8, 1);
        x.rents(0, 16);
        due("found(5)", x.found(5), 1);
    }

    private static void towns() {
        for (promise = 1; promise <= 16; promise++) {
            switch (promise) {
                case 1: p1(); break;
                case 2: p2(); break;
                case 3: p3(); break;
                case 4: p4(); break;
                case 5: p5(); break;
                case 6: p6(); break;
                case 7: p7(); break;
                case 8: p8(); break;
                case 9: p9(); break;
                case 10: p10(); break;
                case 11: p11(); break;
                case 12: p12(); break;
                case 13: p13(); break;
                case 14: p14(); break;
                case 15: p15(); break;
                default: p16(); break;
            }
        }
    }

    private static void letters() {
        for (promise = 17; promise <= 36; promise++) {
            switch (promise) {
                case 17: p17(); break;
                case 18: p18(); break;
                case 19: p19(); break;
                case 20: p20(); break;
                case 21: p21(); break;
                case 22: p22(); break;
                case 23: p23(); break;
                case 24: p24(); break;
                case 25: p25(); break;
                case 26: p26(); break;
                case 27: p27(); break;
                case 28: p28(); break;
                case 29: p29(); break;
                case 30: p30(); break;
                case 31: p31(); break;
                case 32: p32(); break;
                case 33: p33(); break;
                case 34: p34(); break;
                case 35: p35(); break;
                default: p36(); break;
            }
        }
    }

    private static void council() {
        for (promise = 37; promise <= 56; promise++) {
            switch (promise) {
                case 37: p37(); break;
                case 38: p38(); break;
                case 39: p39(); break;
                case 40: p40(); break;
                case 41: p41(); break;
                case 42: p42(); break;
                case 43: p43(); break;
                case 44: p44(); break;
                case 45: p45(); break;
                case 46: p46(); break;
                case 47: p47(); break;
                case 48: p48(); break;
                case 49: p49(); break;
                case 50: p50(); break;
                case 51: p51(); break;
                case 52: p52(); break;
                case 53: p53(); break;
                case 54: p54(); break;
                case 55: p55(); break;
                default: p56(); break;
            }
        }
    }

    public static void main(String[] args) {
        towns();
        letters();
        council();
        System.out.println(wrong == 0 ? "all promises answer as due" : wrong + " answers are not as due");
        if (wrong != 0) {
            System.exit(1);
        }
    }
}
