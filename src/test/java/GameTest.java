/** Promises 44 and 45: GAMES. */
public final class GameTest {
    private static final Check CHECK = new Check();

    public static void main(String[] args) {
        oneTurn();
        nothingIsAsGood();
        turnsMatter();
        replyMatters();
        wrong();
        CHECK.finish();
    }

    private static FootQuarrel two(String ofP, String ofR) {
        return Check.withStreet("foot 2; house a wide 9; house b wide 9; person p in a " + ofP + "; person r in b " + ofR + ";");
    }

    private static void oneTurn() {
        FootQuarrel q = two("temper 30", "temper 0 hears 9");
        CHECK.fine(q, "game(0, 1, 0)", q.game(0, 1, 0), 0);
        CHECK.fine(q, "game(0, 1, 1)", q.game(0, 1, 1), 2);
        CHECK.fine(q, "moveOf(0, 1, 1)", q.moveOf(0, 1, 1), 1);
        // The second one would only lose by what it does, the first says something each time.
        CHECK.fine(q, "game(0, 1, 2)", q.game(0, 1, 2), 2);
        CHECK.fine(q, "game(0, 1, 3)", q.game(0, 1, 3), 4);
        CHECK.fine(q, "game(0, 1, 4)", q.game(0, 1, 4), 4);
        // The other way round only the first one SHOUTS, so that it had best be silent.
        CHECK.fine(q, "game(1, 0, 1)", q.game(1, 0, 1), 0);
        CHECK.fine(q, "moveOf(1, 0, 1)", q.moveOf(1, 0, 1), 0);
        CHECK.fine(q, "game(1, 0, 2)", q.game(1, 0, 2), -2);
        CHECK.fine(q, "game(1, 0, 4)", q.game(1, 0, 4), -4);
    }

    private static void nothingIsAsGood() {
        FootQuarrel deaf = two("", "hears 0");
        CHECK.fine(deaf, "game(0, 1, 4)", deaf.game(0, 1, 4), 0);
        CHECK.fine(deaf, "moveOf(0, 1, 4)", deaf.moveOf(0, 1, 4), 0);
        // To and fro: six SHOUTS, nothing won.
        FootQuarrel even = two("temper 0 hears 9", "temper 0 hears 9");
        CHECK.fine(even, "game(0, 1, 1)", even.game(0, 1, 1), 0);
        CHECK.fine(even, "moveOf(0, 1, 1)", even.moveOf(0, 1, 1), 0);
        FootQuarrel bad = Check.withStreet("foot 3; house a wide 10; house b wide 2; person p in a temper 0 hears 9; person r in b temper 0 hears 9;");
        CHECK.fine(bad, "gainBy(0, 1)", bad.gainBy(0, 1), -1);
        CHECK.fine(bad, "moveOf(0, 1, 1): to say it would be worse", bad.moveOf(0, 1, 1), 0);
        CHECK.fine(bad, "game(0, 1, 1)", bad.game(0, 1, 1), 0);
    }

    private static void turnsMatter() {
        // r must be baited three times: the first one has turns 1, 3 of 4 alone.
        FootQuarrel q = two("temper 30 hears 0", "temper 10 hears 5");
        CHECK.fine(q, "game(0, 1, 4)", q.game(0, 1, 4), 0);
        q.say(0, 1);
        CHECK.fine(q, "game(0, 1, 2)", q.game(0, 1, 2), 0);
        CHECK.fine(q, "moveOf(0, 1, 2)", q.moveOf(0, 1, 2), 0);
        CHECK.fine(q, "game(0, 1, 3)", q.game(0, 1, 3), 2);
        CHECK.fine(q, "moveOf(0, 1, 3)", q.moveOf(0, 1, 3), 1);
        // The second one's reply spoils it: p is about to SHOUT, too.
        FootQuarrel both = two("temper 5 hears 5", "temper 5 hears 5");
        CHECK.fine(both, "game(0, 1, 2)", both.game(0, 1, 2), 0);
        both.say(1, 0);
        CHECK.fine(both, "game(0, 1, 1)", both.game(0, 1, 1), 0);
        CHECK.fine(both, "game(0, 1, 2)", both.game(0, 1, 2), 0);
        // By an odd number of SHOUTS the second one wins, unless the first one makes it SHOUT ahead.
        FootQuarrel odd = two("temper 5 hears 5", "temper 30 hears 5");
        odd.say(1, 0);
        CHECK.fine(odd, "game(0, 1, 1)", odd.game(0, 1, 1), 0);
        CHECK.fine(odd, "game(0, 1, 2)", odd.game(0, 1, 2), -2);
        CHECK.fine(odd, "game(1, 0, 1)", odd.game(1, 0, 1), 2);
    }

    /** r SHOUTS at once, but by that p is so angry that the reply makes him SHOUT as well. */
    private static void replyMatters() {
        FootQuarrel q = two("temper 10 hears 5", "temper 9 hears 5");
        q.say(0, 1);
        CHECK.fine(q, "game(0, 1, 1)", q.game(0, 1, 1), 2);
        CHECK.fine(q, "moveOf(0, 1, 1)", q.moveOf(0, 1, 1), 1);
        CHECK.fine(q, "game(0, 1, 2)", q.game(0, 1, 2), 0);
        CHECK.fine(q, "moveOf(0, 1, 2)", q.moveOf(0, 1, 2), 0);
        // p is about to SHOUT: to make him do it now, when r pays as much, is better than to be silent.
        FootQuarrel ahead = two("temper 5 hears 5", "temper 9 hears 5");
        ahead.say(0, 1);
        ahead.say(1, 0);
        CHECK.fine(ahead, "game(0, 1, 2)", ahead.game(0, 1, 2), 0);
        CHECK.fine(ahead, "moveOf(0, 1, 2)", ahead.moveOf(0, 1, 2), 1);
        CHECK.fine(ahead, "moveOf(0, 1, 1)", ahead.moveOf(0, 1, 1), 0);
        // The second one has but 1 foot to lose: what is tried must not stay in the tries behind it.
        FootQuarrel narrow = Check.withStreet("foot 2; house a wide 9; house b wide 1; person p in a temper 30; person r in b temper 0 hears 9;");
        CHECK.fine(narrow, "game(0, 1, 1)", narrow.game(0, 1, 1), 1);
        CHECK.fine(narrow, "game(0, 1, 4)", narrow.game(0, 1, 4), 1);
        CHECK.fine(narrow, "moveOf(0, 1, 3)", narrow.moveOf(0, 1, 3), 0);
        CHECK.fine(narrow, "game(1, 0, 4)", narrow.game(1, 0, 4), -1);
    }

    private static void wrong() {
        FootQuarrel q = Check.withStreet("house a wide 9; house b wide 9; person p in a; person r in b; person s in a;");
        int[][] pairs = {{0, 0}, {0, 3}, {3, 0}, {-1, 0}, {0, -1}};
        for (int[] pair : pairs) {
            CHECK.refused(q, "game", q.game(pair[0], pair[1], 1), 1);
            CHECK.refused(q, "moveOf", q.moveOf(pair[0], pair[1], 1), 1);
        }
        CHECK.refused(q, "game(0, 1, -1)", q.game(0, 1, -1), 1);
        CHECK.refused(q, "game(0, 1, 5)", q.game(0, 1, 5), 1);
        CHECK.refused(q, "game(0, 2, 5): the lesser STATUS", q.game(0, 2, 5), 1);
        CHECK.refused(q, "game(0, 2, 0)", q.game(0, 2, 0), 7);
        CHECK.refused(q, "moveOf(0, 1, 0)", q.moveOf(0, 1, 0), 1);
        CHECK.refused(q, "moveOf(0, 1, 5)", q.moveOf(0, 1, 5), 1);
        CHECK.refused(q, "moveOf(0, 2, 0): the lesser STATUS", q.moveOf(0, 2, 0), 1);
        CHECK.refused(q, "moveOf(0, 2, 1)", q.moveOf(0, 2, 1), 7);
        CHECK.fine(q, "moveOf(0, 1, 4)", q.moveOf(0, 1, 4), 0);
    }
}
