/** Promises 30 to 43: what would be. */
public final class WouldBeTest {
    private static final Check CHECK = new Check();

    public static void main(String[] args) {
        loud();
        hears();
        shoutsAndGain();
        nothingIsDone();
        bestTo();
        dangers();
        quiet();
        bait();
        leastVoice();
        angerIn();
        calmIn();
        hire();
        hireTies();
        hireOfNoUse();
        pairsWrong();
        CHECK.finish();
    }

    private static void loud() {
        FootQuarrel q = Check.withStreet("house a wide 1; person p in a voice 9; person r in a voice 2; person s in a voice 1;");
        int[] dry = {9, 2, 1};
        int[] wet = {7, 0, 0};
        for (int i = 0; i < 3; i++) {
            CHECK.fine(q, "loud, dry", q.loud(i), dry[i]);
        }
        q.rain(true);
        for (int i = 0; i < 3; i++) {
            CHECK.fine(q, "loud in rain", q.loud(i), wet[i]);
        }
        CHECK.refused(q, "loud(3)", q.loud(3), 1);
        CHECK.refused(q, "loud(-1)", q.loud(-1), 1);
    }

    private static void hears() {
        // They live far from each other, in one HOUSE, at PEACE: it doesn't matter.
        FootQuarrel q = Check.withStreet("house a wide 1; house b wide 1; house c wide 1; peace a b;"
                + "person p in a hears 9 voice 5; person r in c hears 5; person s in a hears 4; person t in b hears 6;");
        CHECK.fine(q, "hears(1, 0)", q.hears(1, 0), 1);
        CHECK.fine(q, "hears(2, 0)", q.hears(2, 0), 0);
        CHECK.fine(q, "hears(3, 0)", q.hears(3, 0), 1);
        CHECK.fine(q, "hears(0, 2)", q.hears(0, 2), 1);
        CHECK.fine(q, "heardBy(0), himself not", q.heardBy(0), 10);
        CHECK.fine(q, "heardBy(1)", q.heardBy(1), 9);
        q.rain(true);
        CHECK.fine(q, "heardBy(1) in rain", q.heardBy(1), 1);
        CHECK.fine(q, "hears(3, 0) in rain", q.hears(3, 0), 0);
        CHECK.refused(q, "hears(0, 0)", q.hears(0, 0), 1);
        CHECK.refused(q, "hears(4, 0)", q.hears(4, 0), 1);
        CHECK.refused(q, "hears(0, 4)", q.hears(0, 4), 1);
        CHECK.refused(q, "hears(-1, 0)", q.hears(-1, 0), 1);
        CHECK.refused(q, "heardBy(4)", q.heardBy(4), 1);
        CHECK.refused(q, "heardBy(-1)", q.heardBy(-1), 1);
    }

    private static void shoutsAndGain() {
        FootQuarrel q = Check.withStreet("foot 3; house a wide 10; house b wide 2;"
                + "person p in a temper 8 hears 9; person r in b temper 4 hears 9; person s in b temper 30;");
        // r SHOUTS (2 feet), p SHOUTS (3 feet back), to and fro.
        CHECK.fine(q, "shoutsBy(0, 1)", q.shoutsBy(0, 1), 6);
        CHECK.fine(q, "gainBy(0, 1)", q.gainBy(0, 1), -1);
        CHECK.due("status() of -1", q.status(), 0);
        CHECK.fine(q, "shoutsBy(1, 0)", q.shoutsBy(1, 0), 0);
        CHECK.fine(q, "gainBy(1, 0)", q.gainBy(1, 0), 0);
        q.change(0, 1, 30);
        CHECK.fine(q, "shoutsBy(0, 1)", q.shoutsBy(0, 1), 1);
        CHECK.fine(q, "gainBy(0, 1)", q.gainBy(0, 1), 2);
        q.change(0, 1, 0);
        q.change(1, 1, 30);
        CHECK.fine(q, "gainBy(1, 0)", q.gainBy(1, 0), 3);
    }

    private static void nothingIsDone() {
        FootQuarrel q = Check.withStreet("house a wide 9; house b wide 9; person p in a temper 0 hears 9; person r in b temper 0 hears 9;");
        q.shoutsBy(0, 1);
        q.gainBy(0, 1);
        q.bestTo(0);
        q.dangers(0);
        q.quiet(0);
        q.bait(0, 1);
        q.leastVoice(0, 1);
        q.hire(1);
        q.game(0, 1, 4);
        q.moveOf(0, 1, 4);
        CHECK.due("wall(0)", q.wall(0), 9);
        for (int what = 5; what <= 6; what++) {
            CHECK.due("person(0, " + what + ")", q.person(0, what), 0);
            CHECK.due("person(1, " + what + ")", q.person(1, what), 0);
        }
        CHECK.due("told(2)", q.told(2), 0);
        CHECK.due("told(11)", q.told(11), 0);
        CHECK.due("told(12)", q.told(12), 0);
        CHECK.due("house(0, 3)", q.house(0, 3), 0);
    }

    private static void bestTo() {
        FootQuarrel q = Check.withStreet("foot 3; house a wide 1; house b wide 9; house c wide 2; house d wide 9;"
                + "person p in b temper 30; person r in a temper 0 hears 9; person s in c temper 0 hears 9;"
                + "person t in c temper 0 hears 9; person u in d temper 0 hears 9;");
        CHECK.fine(q, "bestTo(0)", q.bestTo(0), 2);
        q.peace(1, true);
        CHECK.fine(q, "bestTo(0), c at PEACE", q.bestTo(0), 1);
        q.change(0, 1, 0);
        q.change(1, 1, 30);
        CHECK.fine(q, "bestTo(1): PERSON 0", q.bestTo(1), 0);
        q.peace(0, true);
        CHECK.refused(q, "bestTo(0), all at PEACE", q.bestTo(0), 6);
        FootQuarrel none = Check.withStreet("house a wide 0; house b wide 9; person p in b temper 30; person r in a temper 0 hears 9;");
        CHECK.refused(none, "bestTo(0), 0 feet", none.bestTo(0), 6);
        CHECK.refused(none, "bestTo(2)", none.bestTo(2), 1);
        CHECK.refused(none, "bestTo(-1)", none.bestTo(-1), 1);
    }

    private static void dangers() {
        FootQuarrel q = Check.withStreet("house a wide 9; house b wide 9; house c wide 9;"
                + "person p in b temper 5 hears 5; person r in a voice 5; person s in c voice 6; person t in b voice 9; person u in a voice 9;");
        CHECK.fine(q, "dangers(0)", q.dangers(0), 20);
        q.say(1, 0);
        CHECK.fine(q, "dangers(0), angry", q.dangers(0), 22);
        q.rain(true);
        CHECK.fine(q, "dangers(0) in rain", q.dangers(0), 16);
        CHECK.refused(q, "dangers(5)", q.dangers(5), 1);
        CHECK.refused(q, "dangers(-1)", q.dangers(-1), 1);
    }

    private static void quiet() {
        FootQuarrel q = Check.withStreet("house a wide 9; house b wide 9; house c wide 9;"
                + "person p in a temper 30; person r in b temper 30; person s in c temper 4;");
        CHECK.fine(q, "quiet(0)", q.quiet(0), 1);
        CHECK.fine(q, "quiet(1)", q.quiet(1), 0);
        q.peace(1, true);
        CHECK.fine(q, "quiet(1) at PEACE", q.quiet(1), 1);
        q.change(1, 1, 4);
        CHECK.fine(q, "quiet(0): the right one would SHOUT", q.quiet(0), 0);
        q.change(1, 1, 30);
        q.change(0, 1, 4);
        CHECK.fine(q, "quiet(0): the left one would SHOUT", q.quiet(0), 0);
        q.rain(true);
        CHECK.fine(q, "quiet(0) in rain", q.quiet(0), 1);
        CHECK.refused(q, "quiet(2)", q.quiet(2), 1);
        CHECK.refused(q, "quiet(-1)", q.quiet(-1), 1);
    }

    private static void bait() {
        FootQuarrel q = Check.withStreet("house a wide 9; house b wide 9; person p in a hears 4 voice 5; person r in b temper 30 hears 9;");
        CHECK.fine(q, "bait(0, 1)", q.bait(0, 1), 7);
        q.say(0, 1);
        CHECK.fine(q, "bait(0, 1), angry", q.bait(0, 1), 6);
        q.change(1, 1, 4);
        CHECK.fine(q, "bait(0, 1), angrier than the TEMPER", q.bait(0, 1), 1);
        q.soothe(1);
        CHECK.fine(q, "bait(0, 1), at once", q.bait(0, 1), 1);
        CHECK.refused(q, "bait(1, 0): not heard", q.bait(1, 0), 6);
        q.change(0, 3, 1);
        q.change(1, 1, 30);
        CHECK.fine(q, "bait(0, 1), hardly heard", q.bait(0, 1), 31);
        q.rain(true);
        CHECK.refused(q, "bait(0, 1) in rain", q.bait(0, 1), 6);
    }

    private static void leastVoice() {
        FootQuarrel q = Check.withStreet("house a wide 9; house b wide 9; person p in a; person r in b temper 3 hears 5;");
        CHECK.fine(q, "leastVoice(0, 1): heard", q.leastVoice(0, 1), 5);
        q.change(1, 1, 7);
        CHECK.fine(q, "leastVoice(0, 1): angry enough", q.leastVoice(0, 1), 8);
        q.rain(true);
        CHECK.refused(q, "leastVoice(0, 1) in rain", q.leastVoice(0, 1), 6);
        q.change(1, 1, 6);
        CHECK.fine(q, "leastVoice(0, 1) in rain", q.leastVoice(0, 1), 9);
        q.rain(false);
        q.change(1, 1, 9);
        CHECK.refused(q, "leastVoice(0, 1): none", q.leastVoice(0, 1), 6);
        q.say(0, 1);
        CHECK.fine(q, "leastVoice(0, 1), angry", q.leastVoice(0, 1), 5);
        q.change(1, 2, 9);
        q.change(1, 1, 0);
        CHECK.fine(q, "leastVoice(0, 1), 1", q.leastVoice(0, 1), 1);
    }

    private static void angerIn() {
        FootQuarrel q = Check.withStreet("calm 3; house a wide 9; house b wide 9; person p in a voice 8; person r in b temper 30;");
        q.say(0, 1);
        CHECK.fine(q, "angerIn(1, 0)", q.angerIn(1, 0), 8);
        CHECK.fine(q, "angerIn(1, 1)", q.angerIn(1, 1), 5);
        CHECK.fine(q, "angerIn(1, 3)", q.angerIn(1, 3), 0);
        CHECK.fine(q, "angerIn(1, 99)", q.angerIn(1, 99), 0);
        CHECK.refused(q, "angerIn(1, 100)", q.angerIn(1, 100), 1);
        CHECK.refused(q, "angerIn(1, -1)", q.angerIn(1, -1), 1);
        CHECK.refused(q, "angerIn(2, 0)", q.angerIn(2, 0), 1);
        CHECK.refused(q, "angerIn(-1, 0)", q.angerIn(-1, 0), 1);
        for (int i = 0; i < 101; i++) {
            q.night(99);
        }
        q.say(0, 1);
        CHECK.due("at DAY 9,999", q.told(6), 9999);
        CHECK.fine(q, "angerIn(1, 2) at the last DAY", q.angerIn(1, 2), 2);
    }

    private static void calmIn() {
        FootQuarrel q = Check.withStreet("calm 3; house a wide 9; house b wide 9; person p in a hears 9 voice 9; person r in b temper 30;");
        CHECK.fine(q, "calmIn()", q.calmIn(), 0);
        q.say(1, 0);
        CHECK.fine(q, "calmIn()", q.calmIn(), 2);
        q.say(0, 1);
        CHECK.fine(q, "calmIn()", q.calmIn(), 3);
        FootQuarrel never = Check.withStreet("calm 0; house a wide 9; house b wide 9; person p in a; person r in b;");
        CHECK.fine(never, "calmIn() at peace", never.calmIn(), 0);
        never.say(0, 1);
        CHECK.refused(never, "calmIn() without CALM", never.calmIn(), 6);
    }

    private static void hire() {
        FootQuarrel q = Check.withStreet("house a wide 9; house b wide 9; house c wide 9;"
                + "person p in b temper 12 hears 5; person r in a voice 5 pay 3; person s in c voice 6 pay 4;"
                + "person t in c voice 7 pay 9; person u in a voice 9 pay 20; person v in b voice 9;");
        // 5 + 6 are not above 12; 5 + 7 aren't either; 6 + 7 are, and so are 5 + 6 + 7.
        CHECK.fine(q, "hire(0)", q.hire(0), 13);
        CHECK.fine(q, "hireSet(0)", q.hireSet(0), 12);
        q.change(3, 4, 21);
        CHECK.fine(q, "hire(0): another", q.hire(0), 23);
        CHECK.fine(q, "hireSet(0): another", q.hireSet(0), 18);
        q.say(1, 0);
        CHECK.fine(q, "hire(0), angry", q.hire(0), 7);
        CHECK.fine(q, "hireSet(0), angry", q.hireSet(0), 6);
        q.peace(0, true);
        CHECK.fine(q, "hireSet(0), a at PEACE", q.hireSet(0), 12);
        q.peace(1, true);
        CHECK.refused(q, "hire(0), all at PEACE", q.hire(0), 6);
        CHECK.refused(q, "hireSet(0), all at PEACE", q.hireSet(0), 6);
        CHECK.refused(q, "hire(6)", q.hire(6), 1);
        CHECK.refused(q, "hire(-1)", q.hire(-1), 1);
        CHECK.refused(q, "hireSet(6)", q.hireSet(6), 1);
        CHECK.refused(q, "hireSet(-1)", q.hireSet(-1), 1);
    }

    private static void hireTies() {
        String row = "house a wide 9; house b wide 9; person p in b temper 8 hears 5;";
        FootQuarrel fewest = Check.withStreet(row + "person r in a voice 5 pay 2; person s in a voice 5 pay 2; person t in a voice 9 pay 4;");
        CHECK.fine(fewest, "hire(0): PAY alike", fewest.hire(0), 4);
        CHECK.fine(fewest, "hireSet(0): the fewest", fewest.hireSet(0), 8);
        FootQuarrel least = Check.withStreet(row + "person r in a voice 5 pay 2; person s in a voice 5 pay 2; person t in a voice 5 pay 2;");
        CHECK.fine(least, "hireSet(0): the least as a number", least.hireSet(0), 6);
        FootQuarrel cheaper = Check.withStreet(row + "person r in a voice 5 pay 2; person s in a voice 5 pay 2; person t in a voice 9 pay 5;");
        CHECK.fine(cheaper, "hireSet(0): two that are cheaper by 1", cheaper.hireSet(0), 6);
        FootQuarrel dearer = Check.withStreet(row + "person t in a voice 9 pay 5; person r in a voice 5 pay 2; person s in a voice 5 pay 2;");
        CHECK.fine(dearer, "hireSet(0): two that are cheaper by 1, behind", dearer.hireSet(0), 12);
        FootQuarrel zero = Check.withStreet("house a wide 9; house b wide 9; person p in a voice 9 pay 8; person r in b temper 0;");
        CHECK.fine(zero, "hire(1): PERSON 0", zero.hire(1), 8);
        CHECK.fine(zero, "hireSet(1): PERSON 0", zero.hireSet(1), 1);
        FootQuarrel free = Check.withStreet(row + "person r in a voice 5; person s in a voice 4; person t in a voice 5; person u in a voice 9 pay 1;");
        CHECK.fine(free, "hire(0): for nothing", free.hire(0), 0);
        CHECK.fine(free, "hireSet(0): who is not heard is not hired", free.hireSet(0), 10);
    }

    private static void hireOfNoUse() {
        FootQuarrel q = Check.withStreet("house a wide 9; house b wide 9; person p in b temper 30 hears 5; person r in a voice 9; person s in a voice 9;");
        CHECK.refused(q, "hire(0): together too little", q.hire(0), 6);
        CHECK.refused(q, "hireSet(0): together too little", q.hireSet(0), 6);
        q.say(1, 0);
        q.say(1, 0);
        CHECK.fine(q, "hireSet(0), angry", q.hireSet(0), 6);
        q.change(0, 1, 3);
        q.change(0, 2, 0);
        CHECK.refused(q, "hire(0): angry, but he hears nobody", q.hire(0), 6);
        q.change(0, 2, 1);
        CHECK.fine(q, "hireSet(0): angrier than the TEMPER, he must hear one", q.hireSet(0), 2);
    }

    private static void pairsWrong() {
        FootQuarrel q = Check.withStreet("house a wide 9; house b wide 9; person p in a; person r in b; person s in a;");
        int[][] wrong = {{0, 0}, {0, 3}, {3, 0}, {-1, 0}, {0, -1}};
        for (int[] pair : wrong) {
            CHECK.refused(q, "shoutsBy", q.shoutsBy(pair[0], pair[1]), 1);
            CHECK.refused(q, "gainBy", q.gainBy(pair[0], pair[1]), 1);
            CHECK.refused(q, "bait", q.bait(pair[0], pair[1]), 1);
            CHECK.refused(q, "leastVoice", q.leastVoice(pair[0], pair[1]), 1);
        }
        CHECK.refused(q, "shoutsBy(0, 2)", q.shoutsBy(0, 2), 7);
        CHECK.refused(q, "gainBy(0, 2)", q.gainBy(0, 2), 7);
        CHECK.refused(q, "bait(0, 2)", q.bait(0, 2), 7);
        CHECK.refused(q, "leastVoice(0, 2)", q.leastVoice(0, 2), 7);
    }
}
