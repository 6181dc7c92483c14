/** Promises 46 to 51: what land is lost by whom, who began. */
public final class LandTest {
    private static final Check CHECK = new Check();

    public static void main(String[] args) {
        widest();
        loserAndLoudest();
        share();
        began();
        CHECK.finish();
    }

    private static void widest() {
        FootQuarrel none = new FootQuarrel();
        CHECK.refused(none, "widest() without HOUSES", none.widest(), 6);
        FootQuarrel flat = Check.withStreet("house a wide 0; house b wide 0;");
        CHECK.fine(flat, "widest() without land", flat.widest(), 0);
        FootQuarrel q = Check.withStreet("foot 1; house a wide 4; house b wide 5; house c wide 5; person p in c; person r in b temper 0 hears 9;");
        CHECK.fine(q, "widest(), the first of two", q.widest(), 1);
        q.say(0, 1);
        CHECK.fine(q, "widest() behind a SHOUT", q.widest(), 2);
    }

    private static void loserAndLoudest() {
        FootQuarrel q = Check.withStreet("foot 2; house a wide 9; house b wide 9; house c wide 0;"
                + "person p in a temper 30 hears 0; person r in b temper 0 hears 9; person s in c temper 0 hears 9; person t in a temper 0 hears 1;");
        CHECK.refused(q, "loser(), none", q.loser(), 6);
        CHECK.refused(q, "loudest(), none", q.loudest(), 6);
        q.change(1, 2, 0);
        CHECK.fine(q, "a SHOUT without land", q.say(1, 2), 1);
        CHECK.refused(q, "loser(): it had nothing to lose", q.loser(), 6);
        CHECK.fine(q, "loudest()", q.loudest(), 2);
        q.change(1, 2, 9);
        q.say(0, 1);
        CHECK.fine(q, "loser()", q.loser(), 1);
        CHECK.fine(q, "loudest(), the first of two", q.loudest(), 1);
        q.change(1, 2, 0);
        q.change(1, 3, 9);
        q.say(1, 3);
        CHECK.fine(q, "loser(), the first of two", q.loser(), 0);
        q.say(1, 3);
        CHECK.fine(q, "loudest()", q.loudest(), 3);
        q.survey(0);
        CHECK.fine(q, "loser(), surveyed", q.loser(), 0);
        FootQuarrel one = Check.withStreet("house a wide 9; house b wide 9; person p in a temper 0; person r in b temper 30;");
        one.say(1, 0);
        CHECK.fine(one, "loser() by 1 foot", one.loser(), 0);
        CHECK.fine(one, "loudest(): PERSON 0", one.loudest(), 0);
        CHECK.fine(one, "began(0): the one QUARREL", one.began(0), 1);
        CHECK.fine(one, "quarrelsAt(0)", one.quarrelsAt(0), 1);
    }

    private static void share() {
        FootQuarrel q = Check.withStreet("house a wide 6; house b wide 0; house c wide 4; person p in a temper 0 hears 9; person r in b voice 9;");
        CHECK.fraction(q, "share(0)", q.share(0), 3, 5);
        CHECK.fraction(q, "share(1)", q.share(1), 0, 1);
        CHECK.fraction(q, "share(2)", q.share(2), 2, 5);
        q.change(1, 2, 0);
        q.say(1, 0);
        CHECK.fraction(q, "share(0), as it is", q.share(0), 1, 2);
        CHECK.denied(q, "share(3)", q.share(3), 1);
        CHECK.denied(q, "share(-1)", q.share(-1), 1);
        CHECK.due("top()", q.top(), 1);
        FootQuarrel flat = Check.withStreet("house a wide 0;");
        CHECK.denied(flat, "share(0) without land", flat.share(0), 6);
        CHECK.denied(flat, "share(1) without land", flat.share(1), 1);
        FootQuarrel all = Check.withStreet("house a wide 99;");
        CHECK.fraction(all, "share(0) of all", all.share(0), 1, 1);
    }

    private static void began() {
        FootQuarrel q = Check.withStreet("house a wide 99; house b wide 99; house c wide 99;"
                + "person p in a temper 30 hears 0; person r in b temper 0 hears 9; person s in c temper 30 hears 0; person t in a temper 30 hears 0;");
        CHECK.refused(q, "began(0), none", q.began(0), 6);
        CHECK.fine(q, "quarrelsAt(0), none", q.quarrelsAt(0), 0);
        q.say(3, 1);
        q.say(2, 1);
        for (int i = 0; i < 17; i++) {
            q.say(0, 1);
        }
        CHECK.fine(q, "began(0)", q.began(0), 3);
        CHECK.fine(q, "began(1)", q.began(1), 2);
        CHECK.fine(q, "quarrelsAt(0)", q.quarrelsAt(0), 18);
        CHECK.fine(q, "quarrelsAt(1)", q.quarrelsAt(1), 1);
        q.say(0, 1);
        q.say(0, 1);
        CHECK.fine(q, "began(0): the first one isn't kept", q.began(0), 0);
        CHECK.fine(q, "quarrelsAt(0)", q.quarrelsAt(0), 19);
        q.say(0, 1);
        CHECK.refused(q, "began(1): it isn't kept", q.began(1), 6);
        CHECK.fine(q, "quarrelsAt(1)", q.quarrelsAt(1), 0);
        CHECK.fine(q, "quarrelsAt(0)", q.quarrelsAt(0), 20);
        CHECK.refused(q, "began(2)", q.began(2), 1);
        CHECK.refused(q, "began(-1)", q.began(-1), 1);
        CHECK.refused(q, "quarrelsAt(2)", q.quarrelsAt(2), 1);
        CHECK.refused(q, "quarrelsAt(-1)", q.quarrelsAt(-1), 1);
    }
}
