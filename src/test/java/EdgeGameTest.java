/** The boundary cases of GAMES, promises 44 and 45, each sentence by itself. */
public final class EdgeGameTest {
    private static final Check CHECK = new Check();

    public static void main(String[] args) {
        turns();
        pairs();
        notNear();
        noTurns();
        fourTurns();
        firstWantsItGreat();
        secondWantsItLittle();
        belowZero();
        noFurtherThanWide();
        angerCarriesOn();
        moveIfBetter();
        moveIfAsGood();
        moveIfWorse();
        moveByReply();
        triesStayApart();
        inRain();
        nothingIsDone();
        CHECK.finish();
    }

    private static FootQuarrel two(String rules, String ofP, String ofR) {
        return Check.withStreet(rules + "house a wide 50; house b wide 50; person p in a " + ofP + "; person r in b " + ofR + ";");
    }

    private static void games(FootQuarrel q, String why, int one, int other, int... want) {
        for (int turns = 0; turns < want.length; turns++) {
            CHECK.fine(q, why + ", game of " + turns, q.game(one, other, turns), want[turns]);
        }
    }

    private static void moves(FootQuarrel q, String why, int one, int other, int... want) {
        for (int turns = 1; turns <= want.length; turns++) {
            CHECK.fine(q, why + ", move of " + turns, q.moveOf(one, other, turns), want[turns - 1]);
        }
    }

    /** "n turns (0 to 4)"; moveOf: "(1: turns 0, too ..)". */
    private static void turns() {
        FootQuarrel q = two("", "", "");
        for (int turns : new int[] {-1, 5, 6, Integer.MAX_VALUE, Integer.MIN_VALUE}) {
            CHECK.refused(q, "game(0, 1, " + turns + ")", q.game(0, 1, turns), 1);
            CHECK.refused(q, "moveOf(0, 1, " + turns + ")", q.moveOf(0, 1, turns), 1);
        }
        CHECK.fine(q, "game(0, 1, 0)", q.game(0, 1, 0), 0);
        CHECK.refused(q, "moveOf(0, 1, 0)", q.moveOf(0, 1, 0), 1);
        CHECK.fine(q, "moveOf(0, 1, 1)", q.moveOf(0, 1, 1), 0);
        CHECK.fine(q, "game(0, 1, 4)", q.game(0, 1, 4), 0);
        CHECK.fine(q, "moveOf(0, 1, 4)", q.moveOf(0, 1, 4), 0);
    }

    /** "(1: one and himself, too ..)". */
    private static void pairs() {
        FootQuarrel q = two("", "", "");
        int[][] pairs = {{0, 0}, {1, 1}, {0, 2}, {2, 0}, {2, 2}, {-1, 0}, {0, -1}, {Integer.MAX_VALUE, 0}, {0, Integer.MIN_VALUE}};
        for (int[] pair : pairs) {
            for (int turns : new int[] {0, 1, 4}) {
                CHECK.refused(q, "game(" + pair[0] + ", " + pair[1] + ", " + turns + ")", q.game(pair[0], pair[1], turns), 1);
                CHECK.refused(q, "moveOf(" + pair[0] + ", " + pair[1] + ", " + turns + ")", q.moveOf(pair[0], pair[1], turns), 1);
            }
        }
    }

    /** "7: no NEIGHBOURS". */
    private static void notNear() {
        FootQuarrel q = Check.withStreet("house a wide 1; house b wide 1; house c wide 1; person p in a; person r in c; person s in a; person t in b;");
        CHECK.refused(q, "game, too far", q.game(0, 1, 0), 7);
        CHECK.refused(q, "game, in one HOUSE", q.game(0, 2, 4), 7);
        CHECK.fine(q, "game", q.game(0, 3, 4), 0);
        q.peace(0, true);
        CHECK.refused(q, "game at PEACE", q.game(0, 3, 4), 7);
        CHECK.refused(q, "moveOf, too far", q.moveOf(0, 1, 1), 7);
        CHECK.refused(q, "moveOf, in one HOUSE", q.moveOf(0, 2, 4), 7);
        CHECK.refused(q, "moveOf at PEACE", q.moveOf(0, 3, 4), 7);
        CHECK.refused(q, "game of 5 at PEACE: the first that holds", q.game(0, 3, 5), 1);
        CHECK.refused(q, "moveOf of 0 at PEACE: the first that holds", q.moveOf(0, 3, 0), 1);
    }

    private static void noTurns() {
        FootQuarrel q = two("foot 9;", "temper 30 hears 0", "temper 0 hears 9");
        CHECK.fine(q, "game(0, 1, 0)", q.game(0, 1, 0), 0);
        CHECK.fine(q, "game(1, 0, 0)", q.game(1, 0, 0), 0);
    }

    /** "by turns, the first first": of four turns two are the first one's. */
    private static void fourTurns() {
        FootQuarrel q = two("foot 9;", "temper 30 hears 0", "temper 0 hears 9");
        games(q, "r SHOUTS each time", 0, 1, 0, 9, 9, 18, 18);
        moves(q, "r SHOUTS each time", 0, 1, 1, 1, 1, 1);
    }

    /** "the first wants it great": it says nothing where that is better. */
    private static void firstWantsItGreat() {
        FootQuarrel q = Check.withStreet("foot 2; house a wide 50; house b wide 1; person p in a temper 0 hears 9; person r in b temper 0 hears 9;");
        CHECK.due("to say it would cost 1 foot", q.gainBy(0, 1), -1);
        games(q, "to say it costs 1 foot", 0, 1, 0, 0);
    }

    /** "the second little". */
    private static void secondWantsItLittle() {
        FootQuarrel q = two("foot 9;", "temper 0 hears 9", "temper 30 hears 0");
        games(q, "p SHOUTS each time", 0, 1, 0, 0, -9, -9, -18);
        moves(q, "p SHOUTS each time", 0, 1, 0, 0, 0, 0);
        games(q, "p SHOUTS each time, r begins", 1, 0, 0, 9, 9, 18, 18);
    }

    /** "(by how much) WIDER": STATUS tells -1 from NONE. */
    private static void belowZero() {
        FootQuarrel q = two("foot 1;", "temper 0 hears 9", "temper 30 hears 0");
        CHECK.fine(q, "game of 2", q.game(0, 1, 2), -1);
        CHECK.refused(q, "game of 5", q.game(0, 1, 5), 1);
        CHECK.fine(q, "game of 3", q.game(0, 1, 3), -1);
    }

    private static void noFurtherThanWide() {
        for (int width = 0; width <= 5; width++) {
            FootQuarrel q = Check.withStreet("foot 2; house a wide 50; house b wide " + width
                    + "; person p in a temper 30 hears 0; person r in b temper 0 hears 9;");
            games(q, "b of " + width, 0, 1, 0, Math.min(2, width), Math.min(2, width), Math.min(4, width), Math.min(4, width));
            FootQuarrel mine = Check.withStreet("foot 2; house a wide " + width
                    + "; house b wide 50; person p in a temper 0 hears 9; person r in b temper 30 hears 0;");
            games(mine, "a of " + width, 0, 1, 0, 0, -Math.min(2, width), -Math.min(2, width), -Math.min(4, width));
        }
    }

    /** What was said on an earlier turn counts, and the ANGER of now. */
    private static void angerCarriesOn() {
        FootQuarrel q = two("foot 3;", "temper 30 hears 0", "temper 9 hears 5");
        games(q, "r bears one of 5, not two", 0, 1, 0, 0, 0, 3, 3);
        moves(q, "r bears one of 5, not two", 0, 1, 0, 0, 1, 1);
        q.say(0, 1);
        games(q, "r bears none", 0, 1, 0, 3, 3, 3, 3);
        q.soothe(1);
        q.change(1, 1, 10);
        games(q, "r bears two of 5", 0, 1, 0, 0, 0, 0, 0);
    }

    /** "MOVE: 1 if the first says something at first". */
    private static void moveIfBetter() {
        FootQuarrel q = two("foot 1;", "temper 30 hears 0", "temper 4 hears 5");
        moves(q, "1 foot is better than 0", 0, 1, 1, 1, 1, 1);
        q.change(1, 1, 5);
        moves(q, "r is as ANGRY as his TEMPER", 0, 1, 0, 0, 1, 1);
    }

    /** "0 if nothing is as good". */
    private static void moveIfAsGood() {
        FootQuarrel flat = Check.withStreet("foot 2; house a wide 5; house b wide 0; person p in a temper 30 hears 0; person r in b temper 0 hears 9;");
        moves(flat, "b has no land", 0, 1, 0, 0, 0, 0);
        FootQuarrel even = two("", "temper 0 hears 9", "temper 0 hears 9");
        moves(even, "six SHOUTS", 0, 1, 0, 0, 0, 0);
        // b has 1 foot alone: the second SHOUT would bring as much as the first one.
        FootQuarrel narrow = Check.withStreet("foot 2; house a wide 5; house b wide 1; person p in a temper 30 hears 0; person r in b temper 0 hears 9;");
        moves(narrow, "b has 1 foot", 0, 1, 1, 1, 0, 0);
    }

    /** "or better". */
    private static void moveIfWorse() {
        FootQuarrel q = Check.withStreet("foot 2; house a wide 50; house b wide 1; person p in a temper 0 hears 9; person r in b temper 0 hears 9;");
        moves(q, "to say it costs 1 foot", 0, 1, 0);
    }

    /** "by best play": what the other one replies decides, at its own turn. */
    private static void moveByReply() {
        // r SHOUTS at once, but by that p is so ANGRY that the reply makes him SHOUT as well.
        FootQuarrel q = two("foot 2;", "temper 10 hears 5", "temper 9 hears 5");
        q.say(0, 1);
        games(q, "p is ANGRY by the SHOUT", 0, 1, 0, 2, 0);
        moves(q, "p is ANGRY by the SHOUT", 0, 1, 1, 0);
        // p is about to SHOUT: to have it done now, when r pays as much, is better than to be silent.
        FootQuarrel ahead = two("foot 2;", "temper 5 hears 5", "temper 9 hears 5");
        ahead.say(0, 1);
        ahead.say(1, 0);
        games(ahead, "p is about to SHOUT", 0, 1, 0, 0, 0);
        moves(ahead, "p is about to SHOUT", 0, 1, 0, 1);
    }

    /** One try leaves nothing behind for the next one: ANGER, land of both. */
    private static void triesStayApart() {
        FootQuarrel narrow = Check.withStreet("foot 2; house a wide 9; house b wide 1; person p in a temper 30; person r in b temper 0 hears 9;");
        games(narrow, "b has 1 foot", 0, 1, 0, 1, 1, 1, 1);
        games(narrow, "b has 1 foot, r begins", 1, 0, 0, 0, -1, -1, -1);
        for (int angerOfP = 0; angerOfP < 3; angerOfP++) {
            for (int angerOfR = 0; angerOfR < 3; angerOfR++) {
                FootQuarrel q = two("foot 2;", "temper 11 hears 5", "temper 12 hears 5");
                for (int i = 0; i < angerOfP; i++) {
                    q.say(1, 0);
                }
                for (int i = 0; i < angerOfR; i++) {
                    q.say(0, 1);
                }
                for (int turns = 0; turns <= 4; turns++) {
                    CHECK.fine(q, "game of " + turns + " by ANGER " + 5 * angerOfP + ", " + 5 * angerOfR, q.game(0, 1, turns),
                            played(q, turns, 0, 0));
                }
            }
        }
    }

    /** The GAME by MARKS: the bits of said are the turns on which something is said. */
    private static int played(FootQuarrel q, int turns, int turn, int said) {
        if (turn < turns) {
            int silent = played(q, turns, turn + 1, said);
            int spoken = played(q, turns, turn + 1, said | 1 << turn);
            return turn % 2 == 0 ? Math.max(silent, spoken) : Math.min(silent, spoken);
        }
        q.mark();
        for (int i = 0; i < turns; i++) {
            if ((said >> i & 1) == 1) {
                q.say(i % 2, 1 - i % 2);
            }
        }
        int gain = q.house(0, 0) - 50;
        q.undo();
        return gain;
    }

    private static void inRain() {
        FootQuarrel q = two("foot 1;", "temper 30 hears 0", "temper 2 hears 7");
        games(q, "dry", 0, 1, 0, 1, 1, 2, 2);
        q.rain(true);
        games(q, "rain: LOUD is 3", 0, 1, 0, 1, 1, 2, 2);
        q.change(1, 1, 3);
        games(q, "rain: he bears one", 0, 1, 0, 0, 0, 1, 1);
        q.change(1, 2, 6);
        games(q, "rain: he hears none", 0, 1, 0, 0, 0, 0, 0);
    }

    private static void nothingIsDone() {
        FootQuarrel q = two("foot 3;", "temper 8 hears 9", "temper 8 hears 9");
        q.say(0, 1);
        String ahead = Scene.state(q);
        q.game(0, 1, 4);
        q.game(1, 0, 4);
        q.moveOf(0, 1, 4);
        q.moveOf(1, 0, 3);
        CHECK.due("that GAMES changed nothing", Scene.state(q).equals(ahead), true);
    }
}
