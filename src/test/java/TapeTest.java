/** Promises 1 to 3: a new object, feed, end. */
final class TapeTest {
    private static final Check check = new Check("TapeTest");

    public static void main(String[] args) {
        newObject();
        feedToTheEdge();
        endOfTheTape();
        bytesInOrder();
        check.end();
    }

    private static void newObject() {
        PercolateSets sets = new PercolateSets();
        for (int what = 0; what <= 10; what++) {
            check.due("new: count(" + what + ")", sets.count(what), 0);
        }
        check.due("new: place()", sets.place(), PercolateSets.NONE);
        check.due("new: matched(0)", sets.matched(0), PercolateSets.BAD);
        for (int q = 0; q < 40; q++) {
            check.due("new: query", sets.query(q, 0), PercolateSets.BAD);
        }
        for (int key = 0; key < 12; key++) {
            check.due("new: about", sets.about(key, 0), PercolateSets.BAD);
        }
    }

    private static void feedToTheEdge() {
        PercolateSets sets = new PercolateSets();
        for (int i = 1; i <= 35; i++) {
            check.due("feed " + i, sets.feed(-1, 0, 1, Integer.MIN_VALUE, Integer.MAX_VALUE), 20 * i);
        }
        check.due("feed above 700", sets.feed(0, 0, 0, 0, 0), PercolateSets.FULL);
        check.due("tape stays", sets.count(8), 700);
        check.due("end(19)", sets.end(19), 699);
        check.due("feed to 719", sets.feed(0, 0, 0, 0, 0), PercolateSets.FULL);
        check.due("end(1)", sets.end(1), 680);
        check.due("feed to 700", sets.feed(0, 0, 0, 0, 0), 700);
    }

    private static void endOfTheTape() {
        PercolateSets sets = new PercolateSets();
        check.due("end of nothing", sets.end(0), PercolateSets.BAD);
        sets.feed(0, 0, 0, 0, 0);
        check.due("end(-1)", sets.end(-1), PercolateSets.BAD);
        check.due("end(21)", sets.end(21), PercolateSets.BAD);
        check.due("end(min)", sets.end(Integer.MIN_VALUE), PercolateSets.BAD);
        check.due("end(20)", sets.end(20), 20);
        check.due("end(19)", sets.end(19), 19);
        check.due("end of 19 bytes", sets.end(19), PercolateSets.BAD);
        check.due("feed", sets.feed(0, 0, 0, 0, 0), 39);
        check.due("end(0)", sets.end(0), 19);
    }

    /** The highest byte of each number is the first: the tape must read abcdefghijkl|mnopqrs . */
    private static void bytesInOrder() {
        PercolateSets sets = new PercolateSets();
        check.due("feed", sets.feed(0x61626364, 0x65666768, 0x696a6b6c, 0x7c6d6e6f, 0x70717273), 20);
        check.due("save()", sets.save(), 0);
        check.text("needed", Check.neededOf(sets, 0), "abcdefghijkl mnopqrs");
        check.due("the tape is empty", sets.count(8), 0);
        sets.feed(0x61202020, 0x20202020, 0x20202020, 0x20202020, 0x202020ff);
        check.due("a byte 255", sets.save(), -11);
        check.due("its place", sets.place(), 19);
    }
}
