/** Promises 4 to 7: save, change, drop, place; the tape behind them. */
final class SaveTest {
    private static final Check check = new Check("SaveTest");

    public static void main(String[] args) {
        leastFreeNumber();
        fullAtForty();
        changing();
        dropping();
        badOnesLeaveAll();
        placeOfTheLatest();
        check.end();
    }

    private static void leastFreeNumber() {
        PercolateSets sets = new PercolateSets();
        for (int q = 0; q < 5; q++) {
            check.due("save " + q, Check.save(sets, "a"), q);
            check.due("serial " + q, sets.query(q, 0), q + 1);
        }
        check.due("drop(3)", sets.drop(3), 1);
        check.due("drop(1)", sets.drop(1), 1);
        check.due("save again", Check.save(sets, "b"), 1);
        check.due("its serial", sets.query(1, 0), 6);
        check.due("save again", Check.save(sets, "b"), 3);
        check.due("save again", Check.save(sets, "b"), 5);
        check.due("latest serial", sets.count(9), 8);
    }

    private static void fullAtForty() {
        PercolateSets sets = new PercolateSets();
        for (int q = 0; q < 40; q++) {
            check.due("save " + q, Check.save(sets, "w" + q), q);
        }
        check.due("save a 41st with a fault", Check.save(sets, "w?"), -11);
        check.due("its place", sets.place(), 1);
        check.due("save a 41st", Check.save(sets, "w40"), PercolateSets.FULL);
        check.due("place() then", sets.place(), PercolateSets.NONE);
        check.due("the tape then", sets.count(8), 0);
        check.due("the serial then", sets.count(9), 40);
        check.due("queries then", sets.count(0), 40);
        check.due("change at 40", Check.change(sets, 39, "other"), 41);
        sets.drop(17);
        check.due("save when one went", Check.save(sets, "again"), 17);
        check.due("its serial", sets.query(17, 0), 42);
    }

    private static void changing() {
        PercolateSets sets = new PercolateSets();
        Check.save(sets, "red");
        Check.save(sets, "blue");
        check.due("change(0)", Check.change(sets, 0, "green | *"), 3);
        check.due("its serial", sets.query(0, 0), 3);
        check.due("its leaves", sets.query(0, 3), 2);
        check.text("its needed", Check.neededOf(sets, 0), "ALL");
        check.text("the other", Check.neededOf(sets, 1), "blue");
        check.due("change with a fault", Check.change(sets, 0, "green &"), -11);
        check.due("its serial stays", sets.query(0, 0), 3);
        check.due("place", sets.place(), 7);
        check.due("the tape is empty", sets.count(8), 0);
        check.due("change again", Check.change(sets, 1, "x"), 4);
        check.due("place", sets.place(), PercolateSets.NONE);
    }

    private static void dropping() {
        PercolateSets sets = new PercolateSets();
        check.due("drop of none", sets.drop(0), PercolateSets.BAD);
        Check.save(sets, "red");
        check.due("drop(-1)", sets.drop(-1), PercolateSets.BAD);
        check.due("drop(40)", sets.drop(40), PercolateSets.BAD);
        check.due("drop(max)", sets.drop(Integer.MAX_VALUE), PercolateSets.BAD);
        check.due("drop(min)", sets.drop(Integer.MIN_VALUE), PercolateSets.BAD);
        check.due("drop(0)", sets.drop(0), 1);
        check.due("drop(0) again", sets.drop(0), PercolateSets.BAD);
        check.due("query of it", sets.query(0, 0), PercolateSets.BAD);
        check.due("needed of it", sets.needed(0, 0, 0), PercolateSets.BAD);
        check.due("queries", sets.count(0), 0);
    }

    private static void badOnesLeaveAll() {
        PercolateSets sets = new PercolateSets();
        Check.save(sets, "a ?");
        Check.tell(sets, "red | blue");
        int[] wrong = {-1, 0, 39, 40, Integer.MIN_VALUE, Integer.MAX_VALUE};
        for (int q : wrong) {
            check.due("change(" + q + ")", sets.change(q), PercolateSets.BAD);
        }
        int[] wrongKeys = {-1, 12, Integer.MIN_VALUE, Integer.MAX_VALUE};
        for (int key : wrongKeys) {
            check.due("object(" + key + ")", sets.object(key), PercolateSets.BAD);
        }
        check.due("the tape stays", sets.count(8), 10);
        check.due("the place stays", sets.place(), 2);
        check.due("save()", sets.save(), 0);
    }

    private static void placeOfTheLatest() {
        PercolateSets sets = new PercolateSets();
        check.due("place of none", sets.place(), PercolateSets.NONE);
        Check.save(sets, "ab?");
        check.due("place of save", sets.place(), 2);
        Check.object(sets, 0, "a:x;?");
        check.due("place of object", sets.place(), 4);
        sets.drop(0);
        sets.run(0);
        check.due("place stays", sets.place(), 4);
        Check.object(sets, 0, "a:x;");
        check.due("place of a good object", sets.place(), PercolateSets.NONE);
        Check.save(sets, "(a");
        check.due("place of save", sets.place(), 2);
        Check.save(sets, "a");
        check.due("place of a good save", sets.place(), PercolateSets.NONE);
    }
}
