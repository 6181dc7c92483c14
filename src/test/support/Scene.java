/**
 * An object with which much was done, and a portrait of all that it tells and of what comes of it next: two objects
 * with one portrait are alike, so that by it is seen what a call leaves as it was.
 */
final class Scene {
    /** What stands on the tape of a rich scene. */
    static final String PENDING = "foot 7; house zz wide 3; person yy in zz temper 5;";
    private static final int QUARRELS_TOLD = 3;

    private Scene() {
    }

    /** Three HOUSES, three PEOPLE, YEARS, two MARKS, QUARRELS of two DAYS, ANGER, rain, TRAYS, a tape, a FAULT. */
    static FootQuarrel rich() {
        FootQuarrel q = Check.withStreet("foot 3; calm 2; odds 6; house a wide 20; house b wide 9; house c wide 14;"
                + "person p in a temper 20 hears 4 voice 6; person r in b temper 4 hears 9 pay 3; person s in c temper 12 hears 7 voice 9;");
        q.tray(0, 3, 3);
        q.write(0, 0, 20);
        q.write(0, 1, 23);
        q.write(0, 2, 1L << 40);
        q.tray(1, 1, 2);
        q.write(1, 1, -7);
        q.tray(2, 0, 0);
        Check.years(q, "any; say p r; loop 3; any; night 1; end; when wide a > 9; rain; end;");
        q.live(7);
        q.say(0, 1);
        q.mark();
        q.night(1);
        q.rain(q.told(7) == 0);
        q.say(2, 1);
        q.sorry(0);
        q.mark();
        q.rain(q.told(7) == 0);
        q.say(1, 2);
        q.say(1, 0);
        q.peace(1, true);
        q.rule(4);
        Check.years(q, "rain; dry");
        q.share(1);
        Check.feed(q, PENDING);
        return q;
    }

    /** All that an object tells; the object is used up by it. */
    static String portrait(FootQuarrel q) {
        StringBuilder all = new StringBuilder();
        all.append("FAULT ").append(q.fault(0)).append(' ').append(q.fault(1));
        all.append("\ntape ").append(q.feed(0x3b3b3b3b, 0, 0, 0, 0));
        all.append(rest(q));
        return all.toString();
    }

    /** The portrait without the FAULT and what is on the tape. */
    static String portraitWithoutText(FootQuarrel q) {
        return rest(q);
    }

    private static String rest(FootQuarrel q) {
        StringBuilder all = new StringBuilder();
        all.append("\nFRACTION ").append(q.top()).append('/').append(q.bottom());
        all.append("\nlived");
        for (int what = 0; what <= 4; what++) {
            all.append(' ').append(q.lived(what));
        }
        all.append("\nnow").append(state(q));
        for (int tray = 0; tray < 4; tray++) {
            all.append("\nTRAY ").append(tray).append(row(q, tray));
        }
        all.append("\nYEARS ").append(q.live(5)).append(state(q));
        all.append("\nmean ").append(q.mean(0, 3, 2)).append(q.top()).append('/').append(q.bottom());
        all.append("\ntext ").append(q.street(PENDING.length())).append(state(q));
        for (int i = 0; i < 4; i++) {
            int left = q.undo();
            all.append("\nMARK ").append(left);
            if (left >= 0) {
                all.append(state(q)).append(" YEARS ").append(q.live(11)).append(' ').append(q.wall(0)).append(' ').append(q.told(12));
            }
        }
        return all.toString();
    }

    private static String row(FootQuarrel q, int tray) {
        StringBuilder all = new StringBuilder();
        for (int place = 0; place < 60; place++) {
            long number = q.read(tray, place);
            if (q.status() != 0) {
                all.append(" STATUS ").append(q.status());
                break;
            }
            all.append(' ').append(number);
        }
        if (q.write(tray, 0, 0x123456789abcdef0L)) {
            all.append(" sort by ").append(q.read(tray, 0));
        }
        return all.toString();
    }

    /** What is told of a STREET as it is. */
    static String state(FootQuarrel q) {
        StringBuilder all = new StringBuilder(":");
        for (int what = 0; what <= 12; what++) {
            all.append(' ').append(q.told(what));
        }
        int houses = q.told(0);
        for (int house = 0; house < houses; house++) {
            all.append(" |");
            for (int what = 0; what < 4; what++) {
                all.append(' ').append(q.house(house, what));
            }
        }
        int people = q.told(1);
        for (int person = 0; person < people; person++) {
            all.append(" /");
            for (int what = 0; what < 7; what++) {
                all.append(' ').append(q.person(person, what));
            }
        }
        int quarrels = Math.min(QUARRELS_TOLD, q.told(2));
        for (int k = 0; k < quarrels; k++) {
            all.append(" !");
            for (int what = 0; what < 7; what++) {
                all.append(' ').append(q.quarrel(k, what));
            }
        }
        return all.toString();
    }
}
