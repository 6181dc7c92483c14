/** The boundary cases of what is told of a STREET, promises 13 to 19. */
public final class EdgeToldTest {
    private static final Check CHECK = new Check();
    private static final int[] NEVER = {-1, 13, 99, Integer.MAX_VALUE, Integer.MIN_VALUE};

    public static void main(String[] args) {
        toldWhats();
        toldCounts();
        angrySet();
        peaceSet();
        landlessSet();
        saidAndShouts();
        houseNumbers();
        houseWhats();
        houseWides();
        houseSet();
        houseLost();
        wallNumbers();
        personNumbers();
        personWhats();
        quarrelNumbers();
        quarrelWhats();
        quarrelBelowZero();
        nearPairs();
        nearWrong();
        neighbourSets();
        CHECK.finish();
    }

    /** Six HOUSES h of that width, a PERSON in each of them and two more in the last one. */
    private static FootQuarrel full(int wide) {
        StringBuilder text = new StringBuilder();
        for (int i = 0; i < 6; i++) {
            text.append("house h").append((char) ('a' + i)).append(" wide ").append(wide).append(";");
        }
        for (int i = 0; i < 8; i++) {
            text.append("person p").append((char) ('a' + i)).append(" in h").append((char) ('a' + Math.min(i, 5))).append(" hears 9;");
        }
        return Check.withStreet(text.toString());
    }

    /** Two HOUSES of 9 feet with one PERSON each. */
    private static FootQuarrel two(String rules, String ofP, String ofR) {
        return Check.withStreet(rules + "house a wide 9; house b wide 9; person p in a " + ofP + "; person r in b " + ofR + ";");
    }

    /** told: what 0 to 12 "(1)". */
    private static void toldWhats() {
        FootQuarrel q = full(5);
        int[] want = {6, 8, 0, 1, 2, 4, 0, 0, 0, 0, 0, 0, 0};
        for (int what = 0; what <= 12; what++) {
            CHECK.fine(q, "told(" + what + ")", q.told(what), want[what]);
        }
        for (int what : NEVER) {
            CHECK.refused(q, "told(" + what + ")", q.told(what), 1);
        }
    }

    /** "How many HOUSES (what 0), PEOPLE (1), QUARRELS that are kept (2); FOOT (3), CALM (4), ODDS (5); the DAY (6)". */
    private static void toldCounts() {
        FootQuarrel q = two("foot 9; calm 0; odds 16;", "temper 30 hears 0", "temper 0 hears 9");
        int[] ahead = {2, 2, 0, 9, 0, 16, 0, 0};
        for (int what = 0; what < ahead.length; what++) {
            CHECK.fine(q, "told(" + what + ") ahead", q.told(what), ahead[what]);
        }
        q.say(0, 1);
        q.night(99);
        q.rain(true);
        q.rule(2);
        int[] behind = {2, 2, 1, 2, 0, 16, 99, 1};
        for (int what = 0; what < behind.length; what++) {
            CHECK.fine(q, "told(" + what + ") behind", q.told(what), behind[what]);
        }
    }

    /** "sets of PEOPLE who are angry at all (1 for PERSON 0 ..) (8)": none, the first, the last, all. */
    private static void angrySet() {
        FootQuarrel q = full(5);
        CHECK.fine(q, "nobody", q.told(8), 0);
        q.say(1, 0);
        CHECK.fine(q, "PERSON 0", q.told(8), 1);
        q.say(4, 7);
        CHECK.fine(q, "PERSON 7, too", q.told(8), 129);
        for (int i = 1; i < 7; i++) {
            q.say(Math.max(0, i < 5 ? i - 1 : 4), i);
        }
        CHECK.fine(q, "all", q.told(8), 255);
        FootQuarrel least = two("", "voice 1", "hears 9");
        least.say(0, 1);
        CHECK.fine(least, "who is angry by 1", least.told(8), 2);
        FootQuarrel wet = two("", "voice 3", "hears 9");
        wet.rain(true);
        wet.say(0, 1);
        CHECK.fine(wet, "who is angry by 1 in rain", wet.told(8), 2);
        wet.soothe(1);
        CHECK.fine(wet, "who is soothed", wet.told(8), 0);
    }

    /** "of WALLS that are at PEACE (9)": none, the first, the last, all. */
    private static void peaceSet() {
        FootQuarrel q = full(5);
        CHECK.fine(q, "none", q.told(9), 0);
        q.peace(4, true);
        CHECK.fine(q, "the last WALL", q.told(9), 16);
        q.peace(0, true);
        CHECK.fine(q, "the first one, too", q.told(9), 17);
        q.peace(1, true);
        q.peace(2, true);
        q.peace(3, true);
        CHECK.fine(q, "all", q.told(9), 31);
        q.peace(4, false);
        CHECK.fine(q, "but the last one", q.told(9), 15);
    }

    /** "of HOUSES without land (10)": none, all, one that has 1 foot. */
    private static void landlessSet() {
        CHECK.due("no HOUSES", new FootQuarrel().told(10), 0);
        CHECK.due("none", full(1).told(10), 0);
        CHECK.due("all", full(0).told(10), 63);
        FootQuarrel q = Check.withStreet("house a wide 0; house b wide 2; person p in a temper 30 hears 0; person r in b temper 0 hears 9;");
        CHECK.fine(q, "the first one", q.told(10), 1);
        q.say(0, 1);
        CHECK.fine(q, "both have 1 foot", q.told(10), 0);
        q.say(0, 1);
        CHECK.fine(q, "the last one", q.told(10), 2);
    }

    /** "how many things were said (11), SHOUTS there were (12), in all": a SHOUT is nothing said, what can't be neither. */
    private static void saidAndShouts() {
        FootQuarrel q = two("", "temper 0 hears 9", "temper 0 hears 9");
        q.say(0, 1);
        CHECK.fine(q, "said", q.told(11), 1);
        CHECK.fine(q, "SHOUTS", q.told(12), 6);
        q.say(0, 0);
        q.say(0, 2);
        q.peace(0, true);
        q.say(0, 1);
        CHECK.fine(q, "said, refused", q.told(11), 1);
        CHECK.fine(q, "SHOUTS, refused", q.told(12), 6);
        q.peace(0, false);
        q.change(1, 2, 0);
        q.say(0, 1);
        CHECK.fine(q, "said, not heard", q.told(11), 2);
        CHECK.fine(q, "SHOUTS, not heard", q.told(12), 6);
        q.night(1);
        q.say(1, 0);
        CHECK.fine(q, "said, on another DAY, in all", q.told(11), 3);
        CHECK.fine(q, "SHOUTS, on another DAY, in all", q.told(12), 7);
    }

    /** house: "(1)". */
    private static void houseNumbers() {
        FootQuarrel q = full(5);
        CHECK.fine(q, "house(0, 0)", q.house(0, 0), 5);
        CHECK.fine(q, "house(5, 0)", q.house(5, 0), 5);
        for (int house : new int[] {-1, 6, 7, Integer.MAX_VALUE, Integer.MIN_VALUE}) {
            for (int what = 0; what < 4; what++) {
                CHECK.refused(q, "house(" + house + ", " + what + ")", q.house(house, what), 1);
            }
        }
        FootQuarrel one = Check.withStreet("house a wide 7;");
        CHECK.fine(one, "house(0, 0) of one", one.house(0, 0), 7);
        CHECK.refused(one, "house(1, 0) of one", one.house(1, 0), 1);
        FootQuarrel none = new FootQuarrel();
        CHECK.refused(none, "house(0, 0) of none", none.house(0, 0), 1);
        // A STREET of six HOUSES was there ahead of one of two.
        Check.street(q, "house a wide 1; house b wide 2;");
        CHECK.fine(q, "house(1, 0) of two", q.house(1, 0), 2);
        CHECK.refused(q, "house(2, 0) of two", q.house(2, 0), 1);
    }

    /** house: what 0 to 3. */
    private static void houseWhats() {
        FootQuarrel q = full(5);
        int[] want = {5, 5, 1, 0};
        for (int what = 0; what < 4; what++) {
            CHECK.fine(q, "house(0, " + what + ")", q.house(0, what), want[what]);
        }
        for (int what : new int[] {-1, 4, 5, Integer.MAX_VALUE, Integer.MIN_VALUE}) {
            CHECK.refused(q, "house(0, " + what + ")", q.house(0, what), 1);
        }
    }

    /** "what 0: how WIDE it is, 1: how WIDE it was told": 0 and as much as it can become. */
    private static void houseWides() {
        FootQuarrel q = Check.withStreet("foot 9; house a wide 99; house b wide 10; person p in a temper 30 hears 0; person r in b temper 0 hears 9;");
        q.say(0, 1);
        CHECK.fine(q, "1 foot is left", q.house(1, 0), 1);
        q.say(0, 1);
        CHECK.fine(q, "nothing is left", q.house(1, 0), 0);
        CHECK.fine(q, "it was told", q.house(1, 1), 10);
        CHECK.fine(q, "all is the other one's", q.house(0, 0), 109);
        CHECK.fine(q, "that was told", q.house(0, 1), 99);
        q.say(0, 1);
        CHECK.fine(q, "nothing is left still", q.house(1, 0), 0);
        CHECK.fine(q, "all is the other one's still", q.house(0, 0), 109);
    }

    /** "2: the set of PEOPLE in it": nobody, one, all. */
    private static void houseSet() {
        FootQuarrel q = full(5);
        for (int house = 0; house < 5; house++) {
            CHECK.fine(q, "in HOUSE " + house, q.house(house, 2), 1 << house);
        }
        CHECK.fine(q, "in HOUSE 5", q.house(5, 2), 0xe0);
        for (int person = 0; person < 8; person++) {
            q.move(person, 0);
        }
        CHECK.fine(q, "all in HOUSE 0", q.house(0, 2), 255);
        CHECK.fine(q, "nobody in HOUSE 5", q.house(5, 2), 0);
    }

    /** "3: how many feet it lost by SHOUTS in all, SORRYS not asked": nor SURVEYS, nor feet that it had not. */
    private static void houseLost() {
        FootQuarrel q = two("foot 4;", "temper 30 hears 0", "temper 0 hears 9");
        int[] lost = {4, 8, 9, 9};
        for (int i = 0; i < 4; i++) {
            q.say(0, 1);
            CHECK.fine(q, "lost by SHOUT " + (i + 1), q.house(1, 3), lost[i]);
        }
        q.sorry(3);
        q.sorry(2);
        CHECK.due("it got land back", q.house(1, 0), 4);
        CHECK.fine(q, "lost, SORRYS not asked", q.house(1, 3), 9);
        CHECK.fine(q, "the other one gave land back, but lost none", q.house(0, 3), 0);
        q.survey(0);
        CHECK.fine(q, "lost, surveyed", q.house(1, 3), 9);
        CHECK.fine(q, "the other one, surveyed", q.house(0, 3), 0);
        q.say(0, 1);
        CHECK.fine(q, "lost in all", q.house(1, 3), 13);
    }

    /** wall: "in feet from the beginning of the row (1)". */
    private static void wallNumbers() {
        FootQuarrel q = full(5);
        CHECK.fine(q, "wall(0)", q.wall(0), 5);
        CHECK.fine(q, "wall(4)", q.wall(4), 25);
        for (int wall : new int[] {-1, 5, 6, Integer.MAX_VALUE, Integer.MIN_VALUE}) {
            CHECK.refused(q, "wall(" + wall + ")", q.wall(wall), 1);
        }
        FootQuarrel none = new FootQuarrel();
        CHECK.refused(none, "wall(0) of no HOUSES", none.wall(0), 1);
        CHECK.refused(none, "wall(-1) of no HOUSES", none.wall(-1), 1);
        FootQuarrel one = Check.withStreet("house a wide 7;");
        CHECK.refused(one, "wall(0) of one HOUSE", one.wall(0), 1);
        FootQuarrel flat = full(0);
        CHECK.fine(flat, "wall(0) at the beginning", flat.wall(0), 0);
        CHECK.fine(flat, "wall(4) at the beginning", flat.wall(4), 0);
    }

    /** person: "(1)". */
    private static void personNumbers() {
        FootQuarrel q = full(5);
        CHECK.fine(q, "person(0, 0)", q.person(0, 0), 0);
        CHECK.fine(q, "person(7, 0)", q.person(7, 0), 5);
        for (int person : new int[] {-1, 8, 9, Integer.MAX_VALUE, Integer.MIN_VALUE}) {
            for (int what = 0; what < 7; what++) {
                CHECK.refused(q, "person(" + person + ", " + what + ")", q.person(person, what), 1);
            }
        }
        // A STREET of eight PEOPLE was there ahead of one of one.
        Check.street(q, "house a wide 1; person p in a;");
        CHECK.fine(q, "person(0, 0) of one", q.person(0, 0), 0);
        CHECK.refused(q, "person(1, 0) of one", q.person(1, 0), 1);
    }

    /** person: what 0 to 6, each with its least and its most. */
    private static void personWhats() {
        FootQuarrel least = Check.withStreet("house a wide 1; person p in a temper 0 hears 0 voice 1 pay 0;");
        int[] leasts = {0, 0, 0, 1, 0, 0, 0};
        FootQuarrel most = Check.withStreet("house a wide 1; house b wide 1; person p in b temper 30 hears 9 voice 9 pay 99;");
        int[] mosts = {1, 30, 9, 9, 99, 0, 0};
        for (int what = 0; what < 7; what++) {
            CHECK.fine(least, "the least, what " + what, least.person(0, what), leasts[what]);
            CHECK.fine(most, "the most, what " + what, most.person(0, what), mosts[what]);
        }
        for (int what : new int[] {-1, 7, 8, Integer.MAX_VALUE, Integer.MIN_VALUE}) {
            CHECK.refused(most, "person(0, " + what + ")", most.person(0, what), 1);
        }
        FootQuarrel q = two("", "voice 9", "temper 30 hears 9");
        q.say(0, 1);
        q.say(0, 1);
        q.say(0, 1);
        CHECK.fine(q, "ANGER as much as it was", q.person(1, 5), 27);
        q.say(0, 1);
        CHECK.fine(q, "ANGER behind a SHOUT", q.person(1, 5), 0);
        CHECK.fine(q, "SHOUTS in all", q.person(1, 6), 1);
        q.night(1);
        for (int i = 0; i < 4; i++) {
            q.say(0, 1);
        }
        CHECK.fine(q, "SHOUTS in all, on another DAY", q.person(1, 6), 2);
    }

    private static FootQuarrel oneShoutEach() {
        return two("", "temper 30 hears 0", "temper 0 hears 9");
    }

    /** "the k-th QUARREL that is kept, the latest is 0"; "the latest 20 are kept". */
    private static void quarrelNumbers() {
        FootQuarrel q = oneShoutEach();
        CHECK.refused(q, "quarrel(0, 0) of none", q.quarrel(0, 0), 1);
        for (int i = 0; i < 22; i++) {
            q.say(0, 1);
            int kept = Math.min(i + 1, 20);
            CHECK.fine(q, "told(2) behind " + (i + 1), q.told(2), kept);
            CHECK.fine(q, "the latest of " + kept, q.quarrel(0, 0), i);
            CHECK.fine(q, "the first of " + kept, q.quarrel(kept - 1, 0), i - kept + 1);
            CHECK.refused(q, "one ahead of the first of " + kept, q.quarrel(kept, 0), 1);
            CHECK.refused(q, "quarrel(-1, 0)", q.quarrel(-1, 0), 1);
            q.night(1);
        }
        CHECK.refused(q, "quarrel of the most", q.quarrel(Integer.MAX_VALUE, 0), 1);
        CHECK.refused(q, "quarrel of the least", q.quarrel(Integer.MIN_VALUE, 0), 1);
    }

    /** quarrel: what 0 to 6. */
    private static void quarrelWhats() {
        FootQuarrel q = oneShoutEach();
        q.night(9);
        q.say(0, 1);
        int[] want = {9, 0, 0, 1, 1, 1, 0};
        for (int what = 0; what < 7; what++) {
            CHECK.fine(q, "quarrel(0, " + what + ")", q.quarrel(0, what), want[what]);
        }
        for (int what : new int[] {-1, 7, 8, Integer.MAX_VALUE, Integer.MIN_VALUE}) {
            CHECK.refused(q, "quarrel(0, " + what + ")", q.quarrel(0, what), 1);
        }
        q.sorry(0);
        CHECK.fine(q, "it is halved, by 0 feet, too", q.quarrel(0, 6), 1);
    }

    /** "5: feet by which the WALL went to the right by it, all in all (below 0: to the left)". */
    private static void quarrelBelowZero() {
        FootQuarrel q = two("", "temper 0 hears 9", "temper 30 hears 0");
        q.say(1, 0);
        CHECK.fine(q, "one foot to the left", q.quarrel(0, 5), -1);
        q.rule(9);
        q.say(1, 0);
        CHECK.fine(q, "8 feet, as there was no more", q.quarrel(0, 5), -8);
        q.say(1, 0);
        CHECK.fine(q, "0 feet", q.quarrel(0, 5), 0);
        CHECK.fine(q, "but a SHOUT", q.quarrel(0, 4), 1);
    }

    /** near: NEIGHBOURS are two PEOPLE "whose HOUSES are next to each other and not at PEACE". */
    private static void nearPairs() {
        FootQuarrel q = full(5);
        for (int peace = 0; peace < 2; peace++) {
            for (int one = 0; one < 8; one++) {
                for (int other = 0; other < 8; other++) {
                    if (one != other) {
                        int here = Math.min(one, 5);
                        int there = Math.min(other, 5);
                        boolean atPeace = peace == 1 && Math.min(here, there) == 2;
                        boolean near = Math.abs(here - there) == 1 && !atPeace;
                        CHECK.fine(q, "near(" + one + ", " + other + ")", q.near(one, other), near ? 1 : 0);
                    }
                }
            }
            q.peace(2, true);
        }
    }

    /** near: "(1: one and himself, too)". */
    private static void nearWrong() {
        FootQuarrel q = full(5);
        for (int one = 0; one < 8; one++) {
            CHECK.refused(q, "near(" + one + ", " + one + ")", q.near(one, one), 1);
        }
        for (int none : new int[] {-1, 8, Integer.MAX_VALUE, Integer.MIN_VALUE}) {
            CHECK.refused(q, "near(" + none + ", 0)", q.near(none, 0), 1);
            CHECK.refused(q, "near(0, " + none + ")", q.near(0, none), 1);
            CHECK.refused(q, "near(" + none + ", " + none + ")", q.near(none, none), 1);
        }
    }

    /** neighbours: none, in the first HOUSE, in the middle, in the last one. */
    private static void neighbourSets() {
        FootQuarrel q = full(5);
        int[] want = {2, 5, 10, 20, 0xe8, 16, 16, 16};
        for (int person = 0; person < 8; person++) {
            CHECK.fine(q, "neighbours(" + person + ")", q.neighbours(person), want[person]);
        }
        q.peace(4, true);
        CHECK.fine(q, "neighbours(7) at PEACE", q.neighbours(7), 0);
        CHECK.fine(q, "neighbours(4), one side at PEACE", q.neighbours(4), 8);
        for (int none : new int[] {-1, 8, Integer.MAX_VALUE, Integer.MIN_VALUE}) {
            CHECK.refused(q, "neighbours(" + none + ")", q.neighbours(none), 1);
        }
        FootQuarrel all = Check.withStreet("house a wide 1; house b wide 1; person pa in a; person pb in b; person pc in b; person pd in b;"
                + "person pe in b; person pf in b; person pg in b; person ph in b;");
        CHECK.fine(all, "neighbours(0), all the others", all.neighbours(0), 254);
        CHECK.fine(all, "neighbours(7), one", all.neighbours(7), 1);
        FootQuarrel alone = Check.withStreet("house a wide 1; person p in a;");
        CHECK.fine(alone, "neighbours(0) of one PERSON", alone.neighbours(0), 0);
    }
}
