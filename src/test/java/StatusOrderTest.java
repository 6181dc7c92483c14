/** "STATUS of a call is the first of these that holds": every call in which two of them can hold at once. */
public final class StatusOrderTest {
    private static final Check CHECK = new Check();

    public static void main(String[] args) {
        oneAheadOfAll();
        cells();
        copyWalls();
        pairs();
        nights();
        sorrys();
        walls();
        moves();
        people();
        land();
        years();
        texts();
        CHECK.finish();
    }

    private static FootQuarrel two() {
        return Check.withStreet("house a wide 5; house b wide 5; person p in a; person r in b;");
    }

    /** tray: a number that can't be, with a TRAY that there is not. */
    private static void oneAheadOfAll() {
        FootQuarrel q = new FootQuarrel();
        CHECK.denied(q, "tray(4, 4, 61)", q.tray(4, 4, 61), 1);
        CHECK.denied(q, "wet(13, 13)", q.wet(13, 13), 1);
        CHECK.denied(q, "change of nobody, of nothing", q.change(0, 0, -1), 1);
        CHECK.refused(q, "house of none, of nothing", q.house(0, 4), 1);
        CHECK.refused(q, "person of none, of nothing", q.person(0, 7), 1);
        CHECK.refused(q, "quarrel of none, of nothing", q.quarrel(0, 7), 1);
    }

    /** write, read: 1, 2, 3. */
    private static void cells() {
        FootQuarrel q = new FootQuarrel();
        q.tray(0, 0, 3);
        int[] places = {-1, 3, 60, Integer.MAX_VALUE, Integer.MIN_VALUE};
        for (int place : places) {
            CHECK.denied(q, "write, 1 ahead of 3", q.write(4, place, 0), 1);
            CHECK.refused(q, "read, 1 ahead of 3", q.read(-1, place), 1);
            CHECK.denied(q, "write, 2 ahead of 3", q.write(1, place, 0), 2);
            CHECK.refused(q, "read, 2 ahead of 3", q.read(1, place), 2);
            CHECK.denied(q, "write, 3", q.write(0, place, 0), 3);
            CHECK.refused(q, "read, 3", q.read(0, place), 3);
        }
    }

    /** copyWalls: 1, 2, 3. */
    private static void copyWalls() {
        FootQuarrel q = two();
        CHECK.refused(q, "no TRAY, 1", q.copyWalls(4), 1);
        CHECK.refused(q, "MISSING, 2", q.copyWalls(0), 2);
        q.tray(0, 0, 0);
        CHECK.refused(q, "too few, 3", q.copyWalls(0), 3);
        CHECK.refused(q, "no TRAY still, 1", q.copyWalls(-1), 1);
    }

    /** 1 ahead of 7 and of 6: nobody, or one and himself, is no NEIGHBOUR either. */
    private static void pairs() {
        FootQuarrel q = two();
        q.peace(0, true);
        int[][] wrong = {{0, 0}, {1, 1}, {0, 2}, {2, 1}, {-1, 0}};
        for (int[] pair : wrong) {
            CHECK.refused(q, "say", q.say(pair[0], pair[1]), 1);
            CHECK.refused(q, "shoutsBy", q.shoutsBy(pair[0], pair[1]), 1);
            CHECK.refused(q, "gainBy", q.gainBy(pair[0], pair[1]), 1);
            CHECK.refused(q, "bait", q.bait(pair[0], pair[1]), 1);
            CHECK.refused(q, "leastVoice", q.leastVoice(pair[0], pair[1]), 1);
            CHECK.refused(q, "game", q.game(pair[0], pair[1], 1), 1);
            CHECK.refused(q, "moveOf", q.moveOf(pair[0], pair[1], 1), 1);
        }
        CHECK.refused(q, "game of 5 turns, no NEIGHBOURS", q.game(0, 1, 5), 1);
        CHECK.refused(q, "game of -1 turns, no NEIGHBOURS", q.game(0, 1, -1), 1);
        CHECK.refused(q, "moveOf of 0 turns, no NEIGHBOURS", q.moveOf(0, 1, 0), 1);
        CHECK.refused(q, "game of 4 turns, no NEIGHBOURS", q.game(0, 1, 4), 7);
        CHECK.refused(q, "moveOf of 1 turn, no NEIGHBOURS", q.moveOf(0, 1, 1), 7);
    }

    /** night: 1 ahead of 4. */
    private static void nights() {
        FootQuarrel q = two();
        for (int i = 0; i < 101; i++) {
            q.night(99);
        }
        CHECK.refused(q, "night(100) at DAY 9,999", q.night(100), 1);
        CHECK.refused(q, "night(0) at DAY 9,999", q.night(0), 1);
        CHECK.refused(q, "night of the most at DAY 9,999", q.night(Integer.MAX_VALUE), 1);
        CHECK.refused(q, "night(1) at DAY 9,999", q.night(1), 4);
    }

    /** sorry: 1 ahead of 7. */
    private static void sorrys() {
        FootQuarrel q = two();
        q.change(1, 1, 0);
        q.say(0, 1);
        q.sorry(0);
        CHECK.refused(q, "sorry(0), halved", q.sorry(0), 7);
        CHECK.refused(q, "sorry(1), none", q.sorry(1), 1);
        CHECK.refused(q, "sorry(-1), none", q.sorry(-1), 1);
    }

    /** peace: 1 ahead of 7; began: 1 ahead of 6. */
    private static void walls() {
        FootQuarrel q = two();
        CHECK.denied(q, "peace(1, false)", q.peace(1, false), 1);
        CHECK.denied(q, "peace(-1, false)", q.peace(-1, false), 1);
        CHECK.denied(q, "peace(0, false)", q.peace(0, false), 7);
        CHECK.refused(q, "began(1)", q.began(1), 1);
        CHECK.refused(q, "began(-1)", q.began(-1), 1);
        CHECK.refused(q, "began(0)", q.began(0), 6);
    }

    /** move: 1 ahead of 7. */
    private static void moves() {
        FootQuarrel q = two();
        CHECK.refused(q, "move(2, 0)", q.move(2, 0), 1);
        CHECK.refused(q, "move(0, 2)", q.move(0, 2), 1);
        CHECK.refused(q, "move(2, 2)", q.move(2, 2), 1);
        CHECK.refused(q, "move(0, 0)", q.move(0, 0), 7);
    }

    /** bestTo, hire, hireSet: 1 ahead of 6. */
    private static void people() {
        FootQuarrel q = two();
        CHECK.refused(q, "bestTo(2)", q.bestTo(2), 1);
        CHECK.refused(q, "hire(2)", q.hire(2), 1);
        CHECK.refused(q, "hireSet(-1)", q.hireSet(-1), 1);
        CHECK.refused(q, "bestTo(0)", q.bestTo(0), 6);
        CHECK.refused(q, "hire(0)", q.hire(0), 6);
        CHECK.refused(q, "hireSet(0)", q.hireSet(0), 6);
        CHECK.refused(q, "angerIn of nobody, too many NIGHTS", q.angerIn(2, 100), 1);
    }

    /** share: 1 ahead of 6. */
    private static void land() {
        FootQuarrel q = Check.withStreet("house a wide 0;");
        CHECK.denied(q, "share(1)", q.share(1), 1);
        CHECK.denied(q, "share(-1)", q.share(-1), 1);
        CHECK.denied(q, "share(0)", q.share(0), 6);
    }

    /** live, lived, mean: 1 ahead of 6. */
    private static void years() {
        FootQuarrel q = two();
        CHECK.refused(q, "live(10000)", q.live(10000), 1);
        CHECK.refused(q, "live(0)", q.live(0), 6);
        CHECK.refused(q, "lived(5)", q.lived(5), 1);
        CHECK.refused(q, "lived(0)", q.lived(0), 6);
        CHECK.denied(q, "mean(2, 0, 1)", q.mean(2, 0, 1), 1);
        CHECK.denied(q, "mean(0, 0, 21)", q.mean(0, 0, 21), 1);
        CHECK.denied(q, "mean(0, 9999, 2)", q.mean(0, 9999, 2), 1);
        CHECK.denied(q, "mean(0, 9999, 1)", q.mean(0, 9999, 1), 6);
    }

    /** street, years: 1 ahead of 9, so that the tape stays. */
    private static void texts() {
        FootQuarrel q = new FootQuarrel();
        Check.feed(q, "$");
        CHECK.refused(q, "street(21) of 20 bytes with a FAULT", q.street(21), 1);
        CHECK.refused(q, "years(21) of 20 bytes with a FAULT", q.years(21), 1);
        CHECK.refused(q, "street(20) with a FAULT", q.street(20), 9);
        Check.feed(q, "$" + Check.times(" ", 300));
        CHECK.refused(q, "years(301) with a FAULT", q.years(301), 1);
        CHECK.refused(q, "years(300) with a FAULT", q.years(300), 9);
    }
}
