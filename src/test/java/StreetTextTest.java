/** Promises 9, 10 and 12 to 19: the tape, STREETS as a text, what is told of one. */
public final class StreetTextTest {
    private static final Check CHECK = new Check();
    private static final String ROW = "foot 3; calm 9; odds 16;house aa wide 10 ;house b wide 0;\nhouse c wide 99; "
            + "person p in b; person q in aa temper 30 hears 9 voice 9 pay 99; "
            + "person r in c temper 0 hears 0 voice 1 pay 0; person s in aa voice 8; person t in c hears 7 pay 4; "
            + "peace c b; peace b c;";

    public static void main(String[] args) {
        tape();
        taken();
        houses();
        people();
        nearness();
        sets();
        signs();
        tokenFaults();
        standFaults();
        cutTexts();
        nameFaults();
        numberFaults();
        againFaults();
        manyFaults();
        firstFault();
        oldStays();
        newTakes();
        smallBehindLarge();
        CHECK.finish();
    }

    private static void tape() {
        FootQuarrel q = new FootQuarrel();
        for (int i = 1; i <= 45; i++) {
            CHECK.due("feed", q.feed(0x20202020, 0x20202020, 0x0a0a0a0a, 0x20202020, 0x20202020), i * 20);
        }
        CHECK.due("feed beyond 900", q.feed(0, 0, 0, 0, 0), -1);
        CHECK.refused(q, "street(901)", q.street(901), 1);
        CHECK.refused(q, "street(-1)", q.street(-1), 1);
        CHECK.fine(q, "street(900), blanks alone", q.street(900), 0);
        CHECK.refused(q, "street(1), the tape is empty", q.street(1), 1);
        CHECK.due("feed again", q.feed(0x666f6f74, 0x20373b00, 0, 0, 0), 20);
        CHECK.refused(q, "street(21)", q.street(21), 1);
        CHECK.fine(q, "street(7)", q.street(7), 0);
        CHECK.due("the highest byte came first", q.told(3), 7);
        CHECK.due("feed behind a street", q.feed(0, 0, 0, 0, 0), 20);
        CHECK.refused(q, "street(1) with a FAULT", q.street(1), 9);
        CHECK.due("feed behind a FAULT", q.feed(0, 0, 0, 0, 0), 20);
    }

    private static void taken() {
        FootQuarrel q = new FootQuarrel();
        CHECK.fine(q, "street", Check.street(q, ROW), 5);
        CHECK.due("fault(0)", q.fault(0), 0);
        CHECK.due("fault(1)", q.fault(1), -1);
        CHECK.due("fault(2)", q.fault(2), -1);
        CHECK.due("fault(-1)", q.fault(-1), -1);
        int[] told = {3, 5, 0, 3, 9, 16, 0, 0, 0, 2, 2, 0, 0};
        for (int what = 0; what < told.length; what++) {
            CHECK.fine(q, "told(" + what + ")", q.told(what), told[what]);
        }
        CHECK.refused(q, "told(13)", q.told(13), 1);
        CHECK.refused(q, "told(-1)", q.told(-1), 1);
    }

    private static void houses() {
        FootQuarrel q = Check.withStreet(ROW);
        int[][] want = {{10, 10, 10, 0}, {0, 0, 1, 0}, {99, 99, 20, 0}};
        for (int house = 0; house < 3; house++) {
            for (int what = 0; what < 4; what++) {
                CHECK.fine(q, "house(" + house + ", " + what + ")", q.house(house, what), want[house][what]);
            }
        }
        CHECK.refused(q, "house(3, 0)", q.house(3, 0), 1);
        CHECK.refused(q, "house(-1, 0)", q.house(-1, 0), 1);
        CHECK.refused(q, "house(0, 4)", q.house(0, 4), 1);
        CHECK.refused(q, "house(0, -1)", q.house(0, -1), 1);
        CHECK.fine(q, "wall(0)", q.wall(0), 10);
        CHECK.fine(q, "wall(1)", q.wall(1), 10);
        CHECK.refused(q, "wall(2)", q.wall(2), 1);
        CHECK.refused(q, "wall(-1)", q.wall(-1), 1);
        FootQuarrel one = Check.withStreet("house a wide 5;");
        CHECK.refused(one, "wall(0) of one HOUSE", one.wall(0), 1);
        // What became of the STREET changes what is, not what was told.
        FootQuarrel lost = Check.withStreet("foot 3; house a wide 4; house b wide 4; person p in a temper 30; person r in b temper 0 hears 9;");
        lost.say(0, 1);
        CHECK.due("house(1, 0)", lost.house(1, 0), 1);
        CHECK.due("house(1, 1)", lost.house(1, 1), 4);
        CHECK.due("house(1, 3)", lost.house(1, 3), 3);
        CHECK.due("house(0, 0)", lost.house(0, 0), 7);
        CHECK.due("house(0, 3)", lost.house(0, 3), 0);
        lost.say(0, 1);
        CHECK.due("house(1, 0): no further than it is WIDE", lost.house(1, 0), 0);
        CHECK.due("house(1, 3): feet that it really lost", lost.house(1, 3), 4);
        CHECK.due("told(10)", lost.told(10), 2);
        lost.sorry(1);
        CHECK.due("house(1, 0) behind a SORRY", lost.house(1, 0), 1);
        CHECK.due("house(1, 3): SORRYS not asked", lost.house(1, 3), 4);
    }

    private static void people() {
        FootQuarrel q = Check.withStreet(ROW);
        int[][] want = {{1, 10, 5, 5, 0, 0, 0}, {0, 30, 9, 9, 99, 0, 0}, {2, 0, 0, 1, 0, 0, 0},
            {0, 10, 5, 8, 0, 0, 0}, {2, 10, 7, 5, 4, 0, 0}};
        for (int person = 0; person < 5; person++) {
            for (int what = 0; what < 7; what++) {
                CHECK.fine(q, "person(" + person + ", " + what + ")", q.person(person, what), want[person][what]);
            }
        }
        CHECK.refused(q, "person(5, 0)", q.person(5, 0), 1);
        CHECK.refused(q, "person(-1, 0)", q.person(-1, 0), 1);
        CHECK.refused(q, "person(0, 7)", q.person(0, 7), 1);
        CHECK.refused(q, "person(0, -1)", q.person(0, -1), 1);
    }

    private static void nearness() {
        FootQuarrel q = Check.withStreet(ROW);
        CHECK.fine(q, "near(0, 1)", q.near(0, 1), 1);
        CHECK.fine(q, "near(1, 0)", q.near(1, 0), 1);
        CHECK.fine(q, "near(0, 2): at PEACE", q.near(0, 2), 0);
        CHECK.fine(q, "near(1, 3): one HOUSE", q.near(1, 3), 0);
        CHECK.fine(q, "near(1, 2): too far", q.near(1, 2), 0);
        CHECK.refused(q, "near(1, 1)", q.near(1, 1), 1);
        CHECK.refused(q, "near(0, 5)", q.near(0, 5), 1);
        CHECK.refused(q, "near(5, 0)", q.near(5, 0), 1);
        CHECK.refused(q, "near(-1, 0)", q.near(-1, 0), 1);
        CHECK.refused(q, "near(0, -1)", q.near(0, -1), 1);
        CHECK.fine(q, "neighbours(0)", q.neighbours(0), 10);
        CHECK.fine(q, "neighbours(1)", q.neighbours(1), 1);
        CHECK.fine(q, "neighbours(2)", q.neighbours(2), 0);
        CHECK.refused(q, "neighbours(5)", q.neighbours(5), 1);
        CHECK.refused(q, "neighbours(-1)", q.neighbours(-1), 1);
        q.peace(1, false);
        CHECK.fine(q, "near(0, 2) behind the PEACE", q.near(0, 2), 1);
        CHECK.fine(q, "neighbours(0) behind the PEACE", q.neighbours(0), 30);
    }

    private static void sets() {
        FootQuarrel q = Check.withStreet("house a wide 1; house b wide 0; person p in a; person r in b hears 9; person s in b hears 9;");
        q.say(0, 2);
        CHECK.due("told(8)", q.told(8), 4);
        q.say(0, 1);
        CHECK.due("told(8)", q.told(8), 6);
        CHECK.due("told(10)", q.told(10), 2);
        CHECK.due("told(11)", q.told(11), 2);
        CHECK.due("told(12)", q.told(12), 0);
        q.rain(true);
        CHECK.due("told(7)", q.told(7), 1);
        q.peace(0, true);
        CHECK.due("told(9)", q.told(9), 1);
    }

    private static void signs() {
        CHECK.due("tokens side by side", Check.street(new FootQuarrel(), "foot1;house a wide5;person p in a temper1hears2voice3pay4;"), 1);
        CHECK.due("blanks all over", Check.street(new FootQuarrel(), "\n\n foot \n 1 \n; \n"), 0);
        FootQuarrel q = Check.withStreet("foot 0009;calm 0;odds 0;house abcdefgh wide 0000;");
        CHECK.due("digits ahead", q.told(3), 9);
        CHECK.due("calm 0", q.told(4), 0);
        CHECK.due("odds 0", q.told(5), 0);
        CHECK.due("a NAME of 8 letters", q.told(0), 1);
        FootQuarrel near = Check.withStreet("house a wide 1;house aa wide 1;house foo wide 1;house foots wide 1;");
        CHECK.due("NAMES that are alike", near.told(0), 4);
    }

    private static void tokenFaults() {
        CHECK.streetFault("Foot 1;", 1, 0);
        CHECK.streetFault("foot 1;\tcalm 2;", 1, 7);
        CHECK.streetFault("foot -1;", 1, 5);
        CHECK.streetFault("foot 00001;", 1, 5);
        CHECK.streetFault("12345", 1, 0);
        CHECK.streetFault("foot 1" + (char) 0 + ";", 1, 6);
        CHECK.streetFault("foot 1;" + (char) 200, 1, 7);
        CHECK.streetFault("house `", 1, 6);
        CHECK.streetFault("house {", 1, 6);
        CHECK.streetFault("foot /", 1, 5);
        CHECK.streetFault("foot :", 1, 5);
        CHECK.streetFault("foot 1?;", 1, 6);
    }

    private static void standFaults() {
        CHECK.streetFault(";", 2, 0);
        CHECK.streetFault("a", 2, 0);
        CHECK.streetFault("1", 2, 0);
        CHECK.streetFault("wide", 2, 0);
        CHECK.streetFault("say a b;", 2, 0);
        CHECK.streetFault("foot", 2, 4);
        CHECK.streetFault("foot  \n", 2, 7);
        CHECK.streetFault("foot 1", 2, 6);
        CHECK.streetFault("foot 1 =", 2, 7);
        CHECK.streetFault("foot < 1;", 2, 5);
        CHECK.streetFault("foot > 1;", 2, 5);
        CHECK.streetFault("calm x;", 2, 5);
        CHECK.streetFault("odds ;", 2, 5);
        CHECK.streetFault("house 1", 2, 6);
        CHECK.streetFault("house a ;", 2, 8);
        CHECK.streetFault("house a wide ;", 2, 13);
        CHECK.streetFault("house a wide 1 1", 2, 15);
        CHECK.streetFault("house abcdefghi wide 1;", 2, 6);
        CHECK.streetFault("house abcdefghijklmnopqrstuvwxyz wide 1;", 2, 6);
        CHECK.streetFault("house a wide 1;person p p", 2, 24);
        CHECK.streetFault("house a wide 1;person p in ;", 2, 27);
        CHECK.streetFault("house a wide 1;person p in a hears 1 temper 1;", 2, 37);
        CHECK.streetFault("house a wide 1;person p in a temper 1 temper 1;", 2, 38);
        CHECK.streetFault("house a wide 1;person p in a pay 1 voice 1;", 2, 35);
        CHECK.streetFault("house a wide 1;person p in a temper ;", 2, 36);
        CHECK.streetFault("house a wide 1;person p in a voice", 2, 34);
        CHECK.streetFault("house a wide 1;peace ;", 2, 21);
        CHECK.streetFault("house a wide 1;peace a ;", 2, 23);
        CHECK.streetFault("house a wide 1;house b wide 1;peace a b", 2, 39);
        CHECK.streetFault("house a wide 1;house b wide 1;peace a abcdefghi", 2, 38);
        String[] words = {"foot", "calm", "odds", "house", "wide", "person", "in", "temper", "hears", "voice", "pay",
            "peace", "say", "sorry", "night", "rain", "dry", "any", "when", "angry", "raining", "loop", "end", "stop"};
        for (String word : words) {
            CHECK.streetFault("house " + word + " wide 1;", 2, 6);
            CHECK.streetFault("house a wide 1; person " + word + " in a;", 2, 23);
        }
    }

    /** What is on the tape behind the first n bytes is not looked at. */
    private static void cutTexts() {
        FootQuarrel q = new FootQuarrel();
        Check.feed(q, "foot 12;");
        CHECK.refused(q, "cut in a NUMBER", q.street(6), 9);
        CHECK.due("fault(0)", q.fault(0), 2);
        CHECK.due("fault(1)", q.fault(1), 6);
        Check.feed(q, "house ab wide 1;");
        CHECK.refused(q, "cut in a NAME", q.street(7), 9);
        CHECK.due("fault(1)", q.fault(1), 7);
        Check.feed(q, "house stopp wide 1;");
        CHECK.refused(q, "cut to a WORD that is no NAME", q.street(10), 9);
        CHECK.due("fault(0)", q.fault(0), 2);
        CHECK.due("fault(1)", q.fault(1), 6);
        Check.feed(q, "foot 8;house abcdefghi");
        CHECK.refused(q, "cut to a NAME of 8 letters", q.street(21), 9);
        CHECK.due("fault(1)", q.fault(1), 21);
        Check.feed(q, "foot 00012");
        CHECK.refused(q, "cut to a NUMBER of 4 digits", q.street(9), 9);
        CHECK.due("fault(0)", q.fault(0), 2);
        CHECK.due("fault(1)", q.fault(1), 9);
        Check.feed(q, "foot 8;$");
        CHECK.fine(q, "cut ahead of a FAULT", q.street(7), 0);
    }

    private static void nameFaults() {
        CHECK.streetFault("house a wide 1;house a wide 1;", 3, 21);
        CHECK.streetFault("house a wide 1;person a in a;", 3, 22);
        CHECK.streetFault("house a wide 1;person p in p;", 3, 27);
        CHECK.streetFault("house a wide 1;person p in a;person p in a;", 3, 36);
        CHECK.streetFault("house a wide 1;person p in a;house p wide 1;", 3, 35);
        CHECK.streetFault("house a wide 1;person p in b;house b wide 1;", 3, 27);
        CHECK.streetFault("house a wide 1;person p in a;person r in p;", 3, 41);
        CHECK.streetFault("house a wide 1;person p in a;peace a p;", 3, 37);
        CHECK.streetFault("peace a b;", 3, 6);
        CHECK.streetFault("house a wide 1;peace a b;", 3, 23);
    }

    private static void numberFaults() {
        CHECK.streetFault("foot 0;", 4, 5);
        CHECK.streetFault("foot 10;", 4, 5);
        CHECK.streetFault("calm 10;", 4, 5);
        CHECK.streetFault("odds 17;", 4, 5);
        CHECK.streetFault("house a wide 100;", 4, 13);
        CHECK.streetFault("house a wide 9999;", 4, 13);
        CHECK.streetFault("house a wide 1;person p in a temper 31;", 4, 36);
        CHECK.streetFault("house a wide 1;person p in a hears 10;", 4, 35);
        CHECK.streetFault("house a wide 1;person p in a voice 10;", 4, 35);
        CHECK.streetFault("house a wide 1;person p in a voice 0;", 4, 35);
        CHECK.streetFault("house a wide 1;person p in a pay 100;", 4, 33);
    }

    private static void againFaults() {
        CHECK.streetFault("foot 1;foot 1;", 5, 7);
        CHECK.streetFault("calm 1;calm 1;", 5, 7);
        CHECK.streetFault("odds 1;foot 1;calm 1;odds 1;", 5, 21);
        CHECK.streetFault("foot 1;foot", 5, 7);
        String three = "house a wide 1;house b wide 1;house c wide 1;";
        CHECK.streetFault(three + "peace a c;", 5, 53);
        CHECK.streetFault(three + "peace c a;", 5, 53);
        CHECK.streetFault(three + "peace b b;", 5, 53);
    }

    private static void manyFaults() {
        StringBuilder six = new StringBuilder();
        for (char c = 'a'; c <= 'f'; c++) {
            six.append("house ").append(c).append(" wide 99;");
        }
        CHECK.due("six HOUSES", Check.street(new FootQuarrel(), six.toString()), 0);
        CHECK.streetFault(six + "house", 6, six.length());
        CHECK.streetFault(six + "house a wide 1;", 6, six.length());
        StringBuilder eight = new StringBuilder(six);
        for (char c = 'm'; c <= 't'; c++) {
            eight.append("person ").append(c).append(" in a;");
        }
        CHECK.due("eight PEOPLE", Check.street(new FootQuarrel(), eight.toString()), 8);
        CHECK.streetFault(eight + "person u in a;", 6, eight.length());
        CHECK.streetFault(eight + " person", 6, eight.length() + 1);
    }

    private static void firstFault() {
        CHECK.streetFault("foot 0; $", 4, 5);
        CHECK.streetFault("foot $ 0", 1, 5);
        CHECK.streetFault("house a wide 100; house a", 4, 13);
        CHECK.streetFault("house foot wide 100;", 2, 6);
        CHECK.streetFault("foot 1;foot 0;", 5, 7);
    }

    private static void oldStays() {
        FootQuarrel q = Check.withStreet(ROW);
        Check.years(q, "rain;");
        q.say(0, 1);
        CHECK.refused(q, "a STREET with a FAULT", Check.street(q, "foot 5; calm 5; house z wide 7; person z"), 9);
        CHECK.due("fault(0)", q.fault(0), 3);
        CHECK.due("told(0)", q.told(0), 3);
        CHECK.due("told(3)", q.told(3), 3);
        CHECK.due("told(11)", q.told(11), 1);
        CHECK.fine(q, "live(0)", q.live(0), 1);
        Check.feed(q, "foot 1;");
        CHECK.refused(q, "street(100)", q.street(100), 1);
        CHECK.due("fault(0) is that of the one ahead", q.fault(0), 3);
        CHECK.due("fault(1) too", q.fault(1), 39);
        CHECK.fine(q, "the tape is as it was", q.street(7), 0);
        CHECK.due("fault(0)", q.fault(0), 0);
    }

    private static void newTakes() {
        FootQuarrel q = Check.withStreet("foot 9; house a wide 5; house b wide 5; person p in a voice 9; person r in b temper 0; peace a b;");
        q.peace(0, false);
        Check.years(q, "rain;");
        q.say(0, 1);
        q.night(5);
        q.rain(true);
        CHECK.due("told(2)", q.told(2), 1);
        CHECK.fine(q, "street", Check.street(q, "house a wide 1; house b wide 1; house c wide 1; person z in c;"), 1);
        int[] told = {3, 1, 0, 1, 2, 4, 0, 0, 0, 0, 0, 0, 0};
        for (int what = 0; what < told.length; what++) {
            CHECK.fine(q, "told(" + what + ") of a new STREET", q.told(what), told[what]);
        }
        CHECK.due("house(1, 3)", q.house(1, 3), 0);
        CHECK.due("person(0, 5)", q.person(0, 5), 0);
        CHECK.due("person(0, 6)", q.person(0, 6), 0);
        CHECK.refused(q, "no YEARS", q.live(0), 6);
        // The spare rows were used by the one ahead; nothing of it may show.
        Check.street(q, "house a wide 2; house b wide 3; person p in a; person r in b;");
        CHECK.due("house(1, 3) again", q.house(1, 3), 0);
        CHECK.due("person(1, 6) again", q.person(1, 6), 0);
        CHECK.due("person(1, 1) again", q.person(1, 1), 10);
        CHECK.due("person(0, 3) again", q.person(0, 3), 5);
        int[] again = {2, 2, 0, 1, 2, 4, 0, 0, 0, 0, 0, 0, 0};
        for (int what = 0; what < again.length; what++) {
            CHECK.fine(q, "told(" + what + ") again", q.told(what), again[what]);
        }
        CHECK.refused(q, "no YEARS again", q.live(0), 6);
    }

    /** Of a large STREET nothing is left in a small one. */
    private static void smallBehindLarge() {
        FootQuarrel q = new FootQuarrel();
        for (int i = 0; i < 2; i++) {
            StringBuilder large = new StringBuilder();
            for (char c = 'a'; c <= 'f'; c++) {
                large.append("house ").append(c).append(" wide 0;");
            }
            for (char c = 'm'; c <= 't'; c++) {
                large.append("person ").append(c).append(" in ").append(c % 2 == 0 ? 'a' : 'b').append(" temper 0 hears 9 voice 9 pay 9;");
            }
            CHECK.fine(q, "a large STREET", Check.street(q, large + "peace d c; peace e f;"), 8);
            CHECK.due("HOUSES without land", q.told(10), 63);
            CHECK.due("WALLS at PEACE", q.told(9), 20);
            CHECK.due("neighbours(0)", q.neighbours(0), 0xaa);
            CHECK.due("dangers(0)", q.dangers(0), 0xaa);
            CHECK.due("heardBy(7)", q.heardBy(7), 0x7f);
            CHECK.due("house(1, 2)", q.house(1, 2), 0x55);
            CHECK.due("say(0, 7)", q.say(0, 7), 6);
            CHECK.due("loudest()", q.loudest(), 0);
            CHECK.refused(q, "loser()", q.loser(), 6);
            CHECK.denied(q, "share(5)", q.share(5), 6);
            CHECK.due("hireSet(7)", q.hireSet(7), 1);
            CHECK.due("quiet(0)", q.quiet(0), 0);
            CHECK.due("quiet(4)", q.quiet(4), 1);
            q.change(7, 1, 30);
            q.say(0, 7);
            CHECK.due("calmIn()", q.calmIn(), 5);
            CHECK.due("night(1)", q.night(1), 0x80);
        }
        CHECK.fine(q, "a small STREET", Check.street(q, "house a wide 3; house b wide 3; person p in a; person r in b;"), 2);
        CHECK.due("told(8)", q.told(8), 0);
        CHECK.due("told(9)", q.told(9), 0);
        CHECK.due("told(10)", q.told(10), 0);
        CHECK.due("person(0, 4)", q.person(0, 4), 0);
        CHECK.due("neighbours(0)", q.neighbours(0), 2);
        CHECK.due("heardBy(0)", q.heardBy(0), 2);
        CHECK.due("house(0, 2)", q.house(0, 2), 1);
        CHECK.due("dangers(0)", q.dangers(0), 0);
        CHECK.due("quiet(0)", q.quiet(0), 1);
        CHECK.due("calmIn()", q.calmIn(), 0);
        CHECK.refused(q, "loudest()", q.loudest(), 6);
        CHECK.refused(q, "hire(0)", q.hire(0), 6);
        CHECK.fraction(q, "share(0)", q.share(0), 1, 2);
    }
}
