/** Promises 17 and 20 to 29: SAY, QUARRELS, SORRY, NIGHT, rain, PEACE, moves, changes, SURVEYS. */
public final class DeedTest {
    private static final Check CHECK = new Check();

    public static void main(String[] args) {
        heardOrNot();
        oneShout();
        towardWhoShouts();
        toAndFro();
        sixAtMost();
        noFurtherThanWide();
        inRain();
        sayWrong();
        quarrels();
        twentyQuarrels();
        sorry();
        sorryNoFurther();
        nights();
        rain();
        peace();
        moves();
        changes();
        rules();
        surveys();
        soothes();
        CHECK.finish();
    }

    /** Two HOUSES of 10 feet, p in the left one, r in the right one. */
    private static FootQuarrel two(String rules, String ofP, String ofR) {
        return Check.withStreet(rules + "house a wide 10; house b wide 10; person p in a " + ofP + "; person r in b " + ofR + ";");
    }

    private static void anger(FootQuarrel q, String when, int ofP, int ofR) {
        CHECK.due("ANGER of p " + when, q.person(0, 5), ofP);
        CHECK.due("ANGER of r " + when, q.person(1, 5), ofR);
    }

    private static void wide(FootQuarrel q, String when, int left, int right) {
        CHECK.due("the left HOUSE " + when, q.house(0, 0), left);
        CHECK.due("the right HOUSE " + when, q.house(1, 0), right);
        CHECK.due("the WALL " + when, q.wall(0), left);
    }

    private static void heardOrNot() {
        FootQuarrel deaf = two("", "voice 5", "hears 4");
        CHECK.fine(deaf, "say, not heard", deaf.say(0, 1), 0);
        anger(deaf, "not heard", 0, 0);
        CHECK.due("things said", deaf.told(11), 1);
        FootQuarrel heard = two("", "voice 6", "hears 4");
        CHECK.fine(heard, "say, heard", heard.say(0, 1), 0);
        anger(heard, "heard", 0, 6);
        CHECK.due("told(2)", heard.told(2), 0);
    }

    private static void oneShout() {
        FootQuarrel q = two("foot 3;", "temper 30 hears 5 voice 5", "temper 10 hears 5");
        CHECK.fine(q, "say 1", q.say(0, 1), 0);
        CHECK.fine(q, "say 2", q.say(0, 1), 0);
        anger(q, "as much as the TEMPER", 0, 10);
        CHECK.fine(q, "say 3", q.say(0, 1), 1);
        anger(q, "behind the SHOUT", 9, 0);
        wide(q, "behind the SHOUT", 13, 7);
        CHECK.due("SHOUTS of r", q.person(1, 6), 1);
        CHECK.due("SHOUTS of p", q.person(0, 6), 0);
        CHECK.due("things said", q.told(11), 3);
        CHECK.due("SHOUTS", q.told(12), 1);
        CHECK.due("lost by b", q.house(1, 3), 3);
        CHECK.due("lost by a", q.house(0, 3), 0);
    }

    private static void towardWhoShouts() {
        FootQuarrel q = two("foot 2;", "temper 0 hears 9", "temper 30");
        CHECK.fine(q, "say of the right one", q.say(1, 0), 1);
        wide(q, "toward the left HOUSE", 8, 12);
        CHECK.due("quarrel(0, 5)", q.quarrel(0, 5), -2);
        CHECK.due("status() of a number below 0", q.status(), 0);
        CHECK.due("lost by a", q.house(0, 3), 2);
        FootQuarrel third = Check.withStreet("house a wide 1; house b wide 5; house c wide 5; person p in c; person r in b temper 0 hears 9;");
        CHECK.fine(third, "across WALL 1", third.say(0, 1), 1);
        CHECK.due("wall(0) stays", third.wall(0), 1);
        CHECK.due("wall(1)", third.wall(1), 5);
        CHECK.due("house(2, 0)", third.house(2, 0), 6);
        CHECK.due("quarrel(0, 1)", third.quarrel(0, 1), 1);
    }

    private static void toAndFro() {
        // r SHOUTS; p hears 9 and SHOUTS; r hears 9, which he bears.
        FootQuarrel q = two("foot 4;", "temper 8 hears 1 voice 9", "temper 20 hears 1");
        q.say(0, 1);
        q.say(0, 1);
        CHECK.fine(q, "two SHOUTS", q.say(0, 1), 2);
        anger(q, "behind two SHOUTS", 0, 9);
        wide(q, "behind two SHOUTS", 10, 10);
        CHECK.due("quarrel(0, 4)", q.quarrel(0, 4), 2);
        CHECK.due("quarrel(0, 5)", q.quarrel(0, 5), 0);
        CHECK.due("lost by a", q.house(0, 3), 4);
        CHECK.due("lost by b", q.house(1, 3), 4);
        FootQuarrel deaf = two("foot 4;", "temper 0 hears 0 voice 9", "temper 0 hears 1");
        CHECK.fine(deaf, "a SHOUT that isn't heard", deaf.say(0, 1), 1);
        anger(deaf, "behind a SHOUT that isn't heard", 0, 0);
    }

    private static void sixAtMost() {
        FootQuarrel q = two("", "temper 0 hears 9", "temper 0 hears 9");
        CHECK.fine(q, "six SHOUTS", q.say(0, 1), 6);
        anger(q, "behind the 6th SHOUT", 0, 0);
        CHECK.due("SHOUTS of p", q.person(0, 6), 3);
        CHECK.due("SHOUTS of r", q.person(1, 6), 3);
        CHECK.due("told(12)", q.told(12), 6);
        wide(q, "behind six SHOUTS", 10, 10);
        CHECK.due("lost by a", q.house(0, 3), 3);
        CHECK.due("lost by b", q.house(1, 3), 3);
        q.shoutsBy(1, 0);
        q.say(1, 0);
        CHECK.due("lost by a, twice as much", q.house(0, 3), 6);
        CHECK.due("lost by b, twice as much", q.house(1, 3), 6);
    }

    private static void noFurtherThanWide() {
        FootQuarrel q = Check.withStreet("foot 2; house a wide 10; house b wide 1; person p in a temper 0 hears 9; person r in b temper 0 hears 9;");
        CHECK.fine(q, "six SHOUTS", q.say(0, 1), 6);
        wide(q, "behind them", 9, 2);
        CHECK.due("quarrel(0, 5)", q.quarrel(0, 5), -1);
        CHECK.due("lost by b", q.house(1, 3), 5);
        CHECK.due("lost by a", q.house(0, 3), 6);
        FootQuarrel none = Check.withStreet("house a wide 10; house b wide 0; person p in a; person r in b temper 0 hears 9;");
        CHECK.fine(none, "a SHOUT without land", none.say(0, 1), 1);
        wide(none, "without land", 10, 0);
        CHECK.due("a QUARREL all the same", none.told(2), 1);
        CHECK.due("quarrel(0, 5)", none.quarrel(0, 5), 0);
        CHECK.fine(none, "sorry(0): 0 feet", none.sorry(0), 0);
        CHECK.due("quarrel(0, 6)", none.quarrel(0, 6), 1);
    }

    private static void inRain() {
        FootQuarrel q = two("", "hears 3 voice 7", "temper 9 hears 5");
        q.rain(true);
        q.say(0, 1);
        anger(q, "2 less LOUD", 0, 5);
        CHECK.fine(q, "a SHOUT in rain", q.say(0, 1), 1);
        anger(q, "a SHOUT is 7 LOUD in rain", 7, 0);
        FootQuarrel deaf = two("", "hears 2 voice 7", "temper 0 hears 5");
        deaf.rain(true);
        CHECK.fine(deaf, "a SHOUT in rain, not heard", deaf.say(0, 1), 1);
        anger(deaf, "not heard in rain", 0, 0);
        FootQuarrel soft = two("", "voice 2", "hears 9");
        soft.rain(true);
        soft.say(0, 1);
        anger(soft, "nothing to hear", 0, 0);
    }

    private static void sayWrong() {
        FootQuarrel q = Check.withStreet("house a wide 1; house b wide 1; house c wide 1; person p in a; person r in b; person s in c; person t in a;");
        CHECK.refused(q, "say(0, 0)", q.say(0, 0), 1);
        CHECK.refused(q, "say(0, 4)", q.say(0, 4), 1);
        CHECK.refused(q, "say(4, 0)", q.say(4, 0), 1);
        CHECK.refused(q, "say(-1, 0)", q.say(-1, 0), 1);
        CHECK.refused(q, "say(0, -1)", q.say(0, -1), 1);
        CHECK.refused(q, "say(0, 2)", q.say(0, 2), 7);
        CHECK.refused(q, "say(0, 3)", q.say(0, 3), 7);
        q.peace(0, true);
        CHECK.refused(q, "say(0, 1) at PEACE", q.say(0, 1), 7);
        CHECK.due("nothing was said", q.told(11), 0);
    }

    private static void quarrels() {
        FootQuarrel q = two("foot 3;", "temper 30 hears 5", "temper 0 hears 9");
        CHECK.refused(q, "quarrel(0, 0), none yet", q.quarrel(0, 0), 1);
        q.say(0, 1);
        q.night(2);
        q.change(0, 1, 0);
        q.change(1, 1, 30);
        q.say(1, 0);
        q.sorry(0);
        int[][] want = {{2, 0, 1, 0, 1, -3, 1}, {0, 0, 0, 1, 1, 3, 0}};
        for (int k = 0; k < 2; k++) {
            for (int what = 0; what < 7; what++) {
                CHECK.fine(q, "quarrel(" + k + ", " + what + ")", q.quarrel(k, what), want[k][what]);
            }
        }
        CHECK.refused(q, "quarrel(2, 0)", q.quarrel(2, 0), 1);
        CHECK.refused(q, "quarrel(-1, 0)", q.quarrel(-1, 0), 1);
        CHECK.refused(q, "quarrel(0, 7)", q.quarrel(0, 7), 1);
        CHECK.refused(q, "quarrel(0, -1)", q.quarrel(0, -1), 1);
    }

    private static void twentyQuarrels() {
        FootQuarrel q = two("", "temper 30 hears 0", "temper 0 hears 9");
        for (int i = 1; i <= 23; i++) {
            CHECK.due("say", q.say(0, 1), 1);
            CHECK.due("told(2)", q.told(2), Math.min(i, 20));
            q.night(1);
        }
        CHECK.due("the latest", q.quarrel(0, 0), 22);
        CHECK.due("the 20th", q.quarrel(19, 0), 3);
        CHECK.refused(q, "quarrel(20, 0)", q.quarrel(20, 0), 1);
        CHECK.refused(q, "sorry(20)", q.sorry(20), 1);
        FootQuarrel again = two("", "temper 30 hears 0", "temper 0 hears 9");
        for (int i = 0; i < 41; i++) {
            again.say(0, 1);
            CHECK.due("the latest is not halved", again.quarrel(0, 6), 0);
            again.sorry(0);
            CHECK.due("now it is", again.quarrel(0, 6), 1);
        }
    }

    private static void sorry() {
        FootQuarrel q = two("foot 5;", "temper 30 hears 0", "temper 0 hears 9");
        CHECK.refused(q, "sorry(0), none yet", q.sorry(0), 1);
        q.say(0, 1);
        wide(q, "ahead of the SORRY", 15, 5);
        CHECK.fine(q, "sorry(0)", q.sorry(0), 2);
        wide(q, "behind the SORRY", 13, 7);
        CHECK.due("it is halved", q.quarrel(0, 6), 1);
        CHECK.due("feet by the QUARREL", q.quarrel(0, 5), 5);
        CHECK.refused(q, "sorry(0) again", q.sorry(0), 7);
        q.say(0, 1);
        q.say(0, 1);
        CHECK.fine(q, "sorry(1)", q.sorry(1), 2);
        CHECK.due("the latest is not halved", q.quarrel(0, 6), 0);
        q.night(1);
        CHECK.refused(q, "sorry(0) another DAY", q.sorry(0), 7);
        CHECK.due("not halved", q.quarrel(0, 6), 0);
        CHECK.refused(q, "sorry(-1)", q.sorry(-1), 1);
        CHECK.refused(q, "sorry(3)", q.sorry(3), 1);
        // To the left and back to the right.
        FootQuarrel left = two("foot 5;", "temper 0 hears 9", "temper 30 hears 0");
        left.say(1, 0);
        CHECK.fine(left, "sorry(0) to the right", left.sorry(0), 2);
        wide(left, "back to the right", 7, 13);
    }

    private static void sorryNoFurther() {
        // The WALL went 8 to the right; a lost all but 1 foot to its other NEIGHBOUR since then.
        FootQuarrel q = Check.withStreet("foot 8; house z wide 0; house a wide 0; house b wide 8;"
                + "person o in z hears 0; person p in a temper 30 hears 1; person r in b temper 0 hears 9;");
        q.say(1, 2);
        CHECK.due("a behind the QUARREL", q.house(1, 0), 8);
        q.change(1, 1, 0);
        q.change(1, 2, 5);
        q.rule(7);
        CHECK.fine(q, "say(0, 1)", q.say(0, 1), 1);
        CHECK.due("a behind the second QUARREL", q.house(1, 0), 1);
        CHECK.fine(q, "sorry(1)", q.sorry(1), 1);
        CHECK.due("a has no land", q.house(1, 0), 0);
        CHECK.due("b", q.house(2, 0), 1);
    }

    private static void nights() {
        FootQuarrel q = two("calm 4;", "temper 30 hears 9 voice 9", "temper 30 hears 9");
        q.say(0, 1);
        q.say(1, 0);
        anger(q, "at first", 5, 9);
        CHECK.fine(q, "night(1)", q.night(1), 3);
        anger(q, "behind a NIGHT", 1, 5);
        CHECK.fine(q, "night(1)", q.night(1), 2);
        anger(q, "behind two", 0, 1);
        CHECK.fine(q, "night(99)", q.night(99), 0);
        CHECK.due("the DAY", q.told(6), 101);
        CHECK.refused(q, "night(0)", q.night(0), 1);
        CHECK.refused(q, "night(100)", q.night(100), 1);
        CHECK.refused(q, "night(-1)", q.night(-1), 1);
        for (int i = 0; i < 99; i++) {
            q.night(99);
        }
        CHECK.due("the DAY", q.told(6), 9902);
        CHECK.refused(q, "night(98)", q.night(98), 4);
        CHECK.due("the DAY stays", q.told(6), 9902);
        CHECK.fine(q, "night(97)", q.night(97), 0);
        CHECK.due("the last DAY", q.told(6), 9999);
        CHECK.refused(q, "night(1)", q.night(1), 4);
        CHECK.refused(q, "night(100): the lesser STATUS", q.night(100), 1);
        FootQuarrel never = two("calm 0;", "", "hears 9");
        never.say(0, 1);
        CHECK.fine(never, "night(9) without CALM", never.night(9), 2);
    }

    private static void rain() {
        FootQuarrel q = new FootQuarrel();
        CHECK.denied(q, "rain(false), dry", q.rain(false), 7);
        CHECK.granted(q, "rain(true)", q.rain(true));
        CHECK.due("told(7)", q.told(7), 1);
        CHECK.denied(q, "rain(true) again", q.rain(true), 7);
        CHECK.granted(q, "rain(false)", q.rain(false));
        CHECK.due("told(7)", q.told(7), 0);
    }

    private static void peace() {
        FootQuarrel q = Check.withStreet("house a wide 1; house b wide 1; house c wide 1; person p in b; person r in c; person s in a;");
        CHECK.denied(q, "peace(1, false)", q.peace(1, false), 7);
        CHECK.granted(q, "peace(1, true)", q.peace(1, true));
        CHECK.due("told(9)", q.told(9), 2);
        CHECK.denied(q, "peace(1, true) again", q.peace(1, true), 7);
        CHECK.due("near(0, 1)", q.near(0, 1), 0);
        CHECK.due("near(0, 2)", q.near(0, 2), 1);
        CHECK.granted(q, "peace(0, true)", q.peace(0, true));
        CHECK.due("told(9)", q.told(9), 3);
        CHECK.granted(q, "peace(1, false)", q.peace(1, false));
        CHECK.due("told(9)", q.told(9), 1);
        CHECK.denied(q, "peace(2, true)", q.peace(2, true), 1);
        CHECK.denied(q, "peace(-1, true)", q.peace(-1, true), 1);
    }

    private static void moves() {
        FootQuarrel q = two("", "", "hears 9");
        q.say(0, 1);
        CHECK.fine(q, "move(1, 0)", q.move(1, 0), 1);
        CHECK.due("person(1, 0)", q.person(1, 0), 0);
        CHECK.due("house(0, 2)", q.house(0, 2), 3);
        CHECK.due("house(1, 2)", q.house(1, 2), 0);
        CHECK.due("his ANGER stays", q.person(1, 5), 5);
        CHECK.due("near(0, 1)", q.near(0, 1), 0);
        CHECK.refused(q, "move(1, 0) again", q.move(1, 0), 7);
        CHECK.fine(q, "move(0, 1)", q.move(0, 1), 0);
        CHECK.due("near(0, 1)", q.near(0, 1), 1);
        CHECK.refused(q, "move(2, 0)", q.move(2, 0), 1);
        CHECK.refused(q, "move(-1, 0)", q.move(-1, 0), 1);
        CHECK.refused(q, "move(0, 2)", q.move(0, 2), 1);
        CHECK.refused(q, "move(0, -1)", q.move(0, -1), 1);
    }

    private static void changes() {
        FootQuarrel q = two("", "", "");
        int[] least = {0, 0, 0, 1, 0};
        int[] most = {0, 30, 9, 9, 99};
        for (int what = 1; what <= 4; what++) {
            CHECK.granted(q, "change to the most", q.change(1, what, most[what]));
            CHECK.due("what " + what, q.person(1, what), most[what]);
            CHECK.denied(q, "change above it", q.change(1, what, most[what] + 1), 1);
            CHECK.granted(q, "change to the least", q.change(1, what, least[what]));
            CHECK.due("what " + what, q.person(1, what), least[what]);
            CHECK.denied(q, "change below it", q.change(1, what, least[what] - 1), 1);
            CHECK.due("what " + what + " stays", q.person(1, what), least[what]);
        }
        CHECK.due("the other one", q.person(0, 1), 10);
        CHECK.denied(q, "change(1, 0, 0)", q.change(1, 0, 0), 1);
        CHECK.denied(q, "change(1, 5, 0)", q.change(1, 5, 0), 1);
        CHECK.denied(q, "change(1, -1, 0)", q.change(1, -1, 0), 1);
        CHECK.denied(q, "change(2, 1, 0)", q.change(2, 1, 0), 1);
        CHECK.denied(q, "change(-1, 1, 0)", q.change(-1, 1, 0), 1);
        // ANGER above the TEMPER alone is no SHOUT: he must hear something first.
        FootQuarrel late = two("", "", "temper 30 hears 9");
        late.say(0, 1);
        late.change(1, 1, 3);
        late.change(1, 2, 4);
        CHECK.fine(late, "say, not heard", late.say(0, 1), 0);
        late.change(1, 2, 5);
        CHECK.fine(late, "say, heard", late.say(0, 1), 1);
    }

    private static void rules() {
        FootQuarrel q = two("", "temper 30", "temper 0 hears 9");
        CHECK.granted(q, "rule(9)", q.rule(9));
        CHECK.due("told(3)", q.told(3), 9);
        q.say(0, 1);
        wide(q, "by 9 feet", 19, 1);
        CHECK.granted(q, "rule(1)", q.rule(1));
        CHECK.denied(q, "rule(0)", q.rule(0), 1);
        CHECK.denied(q, "rule(10)", q.rule(10), 1);
        CHECK.due("told(3)", q.told(3), 1);
    }

    private static void surveys() {
        FootQuarrel q = two("foot 4;", "temper 30 hears 0", "temper 0 hears 9");
        CHECK.fine(q, "survey(0) where it was told", q.survey(0), 0);
        q.say(0, 1);
        CHECK.fine(q, "survey(0) to the left", q.survey(0), -4);
        wide(q, "as told", 10, 10);
        CHECK.due("lost all the same", q.house(1, 3), 4);
        q.change(0, 1, 0);
        q.change(0, 2, 9);
        q.change(1, 1, 30);
        q.rule(1);
        q.say(1, 0);
        CHECK.fine(q, "survey(0) to the right", q.survey(0), 1);
        CHECK.due("status() of survey", q.status(), 0);
        CHECK.refused(q, "survey(1)", q.survey(1), 1);
        CHECK.refused(q, "survey(-1)", q.survey(-1), 1);
        // WALL 1 went left beyond where WALL 0 was told; then WALL 0 can't come back as far.
        FootQuarrel far = Check.withStreet("foot 9; house a wide 5; house b wide 3; house c wide 0;"
                + "person p in a temper 0 hears 9; person r in b temper 0 hears 1 voice 9; person s in c hears 0;");
        far.change(1, 2, 0);
        CHECK.fine(far, "WALL 0 to the left", far.say(1, 0), 1);
        CHECK.due("wall(0)", far.wall(0), 0);
        far.change(1, 2, 5);
        CHECK.fine(far, "WALL 1 to the left", far.say(2, 1), 1);
        CHECK.due("wall(1)", far.wall(1), 0);
        CHECK.fine(far, "survey(0): nothing to go", far.survey(0), 0);
        CHECK.fine(far, "survey(1)", far.survey(1), 8);
        CHECK.fine(far, "survey(0) behind it", far.survey(0), 5);
        // To the left as far as the HOUSE there is WIDE.
        FootQuarrel less = Check.withStreet("foot 6; house a wide 2; house b wide 0; house c wide 6;"
                + "person p in a hears 9; person r in b temper 30 hears 0; person s in c temper 0 hears 9;");
        less.say(1, 2);
        CHECK.due("wall(1)", less.wall(1), 8);
        less.rule(5);
        less.change(1, 1, 0);
        less.change(1, 2, 9);
        less.change(0, 2, 0);
        less.say(0, 1);
        CHECK.due("wall(0)", less.wall(0), 7);
        CHECK.fine(less, "survey(1) to the left, 1 foot alone", less.survey(1), -1);
        CHECK.due("status() of -1 feet", less.status(), 0);
        CHECK.due("house(1, 0)", less.house(1, 0), 0);
    }

    private static void soothes() {
        FootQuarrel q = two("", "", "hears 9");
        q.say(0, 1);
        q.say(0, 1);
        CHECK.fine(q, "soothe(1)", q.soothe(1), 10);
        anger(q, "soothed", 0, 0);
        CHECK.fine(q, "soothe(1) again", q.soothe(1), 0);
        CHECK.refused(q, "soothe(2)", q.soothe(2), 1);
        CHECK.refused(q, "soothe(-1)", q.soothe(-1), 1);
    }
}
