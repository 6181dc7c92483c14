/** Promises 1 to 8: a new object, STATUS, the FRACTION, TRAYS. */
public final class TrayTest {
    private static final Check CHECK = new Check();

    public static void main(String[] args) {
        newObject();
        statusOfLatest();
        fractionStays();
        trays();
        cells();
        cuts();
        pours();
        pourOrder();
        CHECK.finish();
    }

    private static void newObject() {
        FootQuarrel q = new FootQuarrel();
        CHECK.due("NONE", FootQuarrel.NONE, -1);
        CHECK.due("status()", q.status(), 0);
        CHECK.due("top()", q.top(), 0);
        CHECK.due("bottom()", q.bottom(), 1);
        int[] told = {0, 0, 0, 1, 2, 4, 0, 0, 0, 0, 0, 0, 0};
        for (int what = 0; what < told.length; what++) {
            CHECK.fine(q, "told(" + what + ") of a new object", q.told(what), told[what]);
        }
        CHECK.due("fault(0)", q.fault(0), -1);
        CHECK.due("fault(1)", q.fault(1), -1);
        CHECK.refused(q, "undo()", q.undo(), 6);
        CHECK.refused(q, "live(0)", q.live(0), 6);
        CHECK.refused(q, "lived(0)", q.lived(0), 6);
        for (int tray = 0; tray < 4; tray++) {
            CHECK.refused(q, "read of a MISSING TRAY", q.read(tray, 0), 2);
        }
        CHECK.refused(q, "street(1) of an empty tape", q.street(1), 1);
        CHECK.fine(q, "street(0)", q.street(0), 0);
    }

    private static void statusOfLatest() {
        FootQuarrel q = new FootQuarrel();
        q.told(99);
        CHECK.due("status()", q.status(), 1);
        q.top();
        q.bottom();
        q.feed(1, 2, 3, 4, 5);
        q.fault(0);
        q.fault(77);
        q.status();
        CHECK.due("status() behind calls that have none", q.status(), 1);
        q.told(0);
        CHECK.due("status()", q.status(), 0);
    }

    private static void fractionStays() {
        FootQuarrel q = Check.withStreet("house a wide 6; house b wide 3;");
        CHECK.fraction(q, "share(0)", q.share(0), 2, 3);
        CHECK.denied(q, "share(2)", q.share(2), 1);
        CHECK.denied(q, "wet(13, 0)", q.wet(13, 0), 1);
        q.told(0);
        CHECK.due("top() stays", q.top(), 2);
        CHECK.due("bottom() stays", q.bottom(), 3);
        CHECK.fraction(q, "wet(0, 1)", q.wet(0, 1), 0, 1);
    }

    private static void trays() {
        FootQuarrel q = new FootQuarrel();
        CHECK.granted(q, "tray(0, 0, 0)", q.tray(0, 0, 0));
        CHECK.refused(q, "read(0, 0) of an empty row", q.read(0, 0), 3);
        CHECK.granted(q, "tray(3, 3, 60)", q.tray(3, 3, 60));
        CHECK.fine(q, "read(3, 59)", q.read(3, 59), 0);
        CHECK.denied(q, "tray(-1, 0, 1)", q.tray(-1, 0, 1), 1);
        CHECK.denied(q, "tray(4, 0, 1)", q.tray(4, 0, 1), 1);
        CHECK.denied(q, "tray(1, -1, 1)", q.tray(1, -1, 1), 1);
        CHECK.denied(q, "tray(1, 4, 1)", q.tray(1, 4, 1), 1);
        CHECK.denied(q, "tray(1, 0, -1)", q.tray(1, 0, -1), 1);
        CHECK.denied(q, "tray(1, 0, 61)", q.tray(1, 0, 61), 1);
        CHECK.refused(q, "read(1, 0): still MISSING", q.read(1, 0), 2);
        q.write(3, 5, 77);
        q.write(3, 0, 78);
        CHECK.denied(q, "tray(3, 3, 61)", q.tray(3, 3, 61), 1);
        CHECK.fine(q, "read(3, 5): as it was", q.read(3, 5), 77);
        q.tray(3, 3, 6);
        CHECK.fine(q, "read(3, 5): 0 again", q.read(3, 5), 0);
        CHECK.fine(q, "read(3, 0): 0 again", q.read(3, 0), 0);
        CHECK.refused(q, "read(3, 6)", q.read(3, 6), 3);
    }

    private static void cells() {
        FootQuarrel q = new FootQuarrel();
        q.tray(2, 2, 3);
        CHECK.granted(q, "write(2, 0, -1)", q.write(2, 0, -1));
        CHECK.fine(q, "read(2, 0)", q.read(2, 0), -1);
        CHECK.granted(q, "write(2, 2, 9)", q.write(2, 2, 9));
        CHECK.fine(q, "read(2, 2)", q.read(2, 2), 9);
        CHECK.fine(q, "read(2, 1)", q.read(2, 1), 0);
        CHECK.denied(q, "write(2, 3, 9)", q.write(2, 3, 9), 3);
        CHECK.denied(q, "write(2, -1, 9)", q.write(2, -1, 9), 3);
        CHECK.refused(q, "read(2, 3)", q.read(2, 3), 3);
        CHECK.refused(q, "read(2, -1)", q.read(2, -1), 3);
        CHECK.denied(q, "write(1, 99, 9)", q.write(1, 99, 9), 2);
        CHECK.refused(q, "read(1, 99)", q.read(1, 99), 2);
        CHECK.denied(q, "write(4, 0, 9)", q.write(4, 0, 9), 1);
        CHECK.denied(q, "write(-1, 0, 9)", q.write(-1, 0, 9), 1);
        CHECK.refused(q, "read(4, 0)", q.read(4, 0), 1);
        CHECK.refused(q, "read(-1, 0)", q.read(-1, 0), 1);
    }

    private static void cuts() {
        long[] numbers = {127, 128, 255, 256, -129, 32767, 32768, 65535, 2147483647L, 2147483648L, Long.MIN_VALUE};
        FootQuarrel q = new FootQuarrel();
        for (int sort = 0; sort < 4; sort++) {
            q.tray(sort, sort, 1);
            for (long number : numbers) {
                q.write(sort, 0, number);
                long[] want = {(byte) number, (short) number, (int) number, number};
                CHECK.fine(q, "sort " + sort + " of " + number, q.read(sort, 0), want[sort]);
            }
        }
    }

    private static void pours() {
        FootQuarrel q = new FootQuarrel();
        q.tray(0, 1, 5);
        q.tray(1, 1, 3);
        for (int i = 0; i < 5; i++) {
            q.write(0, i, 10 + i);
        }
        CHECK.granted(q, "pour(0, 1, 1, 0, 3)", q.pour(0, 1, 1, 0, 3));
        CHECK.due("what came first", q.read(1, 0), 11);
        CHECK.due("what came last", q.read(1, 2), 13);
        CHECK.due("what was poured stays", q.read(0, 1), 11);
        CHECK.granted(q, "pour to its own place behind", q.pour(0, 0, 0, 1, 4));
        CHECK.due("the first stays", q.read(0, 0), 10);
        CHECK.due("the second as it was", q.read(0, 1), 10);
        CHECK.due("the third as it was", q.read(0, 2), 11);
        CHECK.due("the last as it was", q.read(0, 4), 13);
        CHECK.granted(q, "pour to its own place ahead", q.pour(0, 2, 0, 0, 3));
        CHECK.due("ahead, the first", q.read(0, 0), 11);
        CHECK.due("ahead, the third", q.read(0, 2), 13);
        CHECK.due("ahead, the fourth stays", q.read(0, 3), 12);
        CHECK.granted(q, "pour of none at the end", q.pour(0, 5, 1, 3, 0));
        CHECK.denied(q, "pour of too many", q.pour(0, 3, 1, 0, 3), 3);
        CHECK.denied(q, "pour to too few", q.pour(0, 0, 1, 1, 3), 3);
        CHECK.denied(q, "pour from far", q.pour(0, Integer.MAX_VALUE, 1, 0, Integer.MAX_VALUE), 3);
        CHECK.denied(q, "pour of none from behind the end", q.pour(0, 6, 1, 0, 0), 3);
        CHECK.due("nothing came", q.read(1, 0), 11);
    }

    private static void pourOrder() {
        FootQuarrel q = new FootQuarrel();
        q.tray(0, 1, 5);
        q.tray(1, 2, 5);
        CHECK.denied(q, "no such TRAY to pour from", q.pour(4, 0, 2, 0, 1), 1);
        CHECK.denied(q, "no such TRAY to pour to", q.pour(2, 0, -1, 0, 1), 1);
        CHECK.denied(q, "a place below 0", q.pour(0, -1, 2, 0, 1), 1);
        CHECK.denied(q, "a place below 0 there", q.pour(2, 0, 0, -1, 1), 1);
        CHECK.denied(q, "many below 0", q.pour(0, 0, 2, 0, -1), 1);
        CHECK.denied(q, "MISSING to", q.pour(0, 9, 2, 0, 1), 2);
        CHECK.denied(q, "MISSING from", q.pour(2, 0, 0, 9, 1), 2);
        CHECK.denied(q, "unlike sorts ahead of places", q.pour(0, 9, 1, 9, 1), 8);
        CHECK.denied(q, "a place", q.pour(0, 5, 0, 0, 1), 3);
    }
}
