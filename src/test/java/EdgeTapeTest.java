/** The edges of promises 1 to 3: each method holds one sentence of the document. */
final class EdgeTapeTest {
    private static final int BAD = PercolateSets.BAD, NONE = PercolateSets.NONE, FULL = PercolateSets.FULL;
    private static final Check check = new Check("EdgeTapeTest");

    public static void main(String[] args) {
        newObjectAnswersNothing();
        newObjectsShareNothing();
        sevenHundredBytes();
        refusedFeedLeavesTheTape();
        highestByteFirst();
        everyByteOfEveryNumber();
        zeroToTwentyStay();
        anotherNumberIsBad();
        fewerThanTwentyAreBad();
        firstOnesStay();
        check.end();
    }

    /** "An empty tape, no QUERIES, no OBJECTS." */
    private static void newObjectAnswersNothing() {
        PercolateSets sets = new PercolateSets();
        for (int what = 0; what <= 10; what++) {
            check.due("new: count(" + what + ")", sets.count(what), 0);
        }
        check.due("new: place()", sets.place(), NONE);
        check.due("new: end(0)", sets.end(0), BAD);
        for (int q = 0; q < 40; q++) {
            check.due("new: change(" + q + ")", sets.change(q), BAD);
            check.due("new: drop(" + q + ")", sets.drop(q), BAD);
            check.due("new: query(" + q + ", 0)", sets.query(q, 0), BAD);
            check.due("new: needed(" + q + ", 0, -1)", sets.needed(q, 0, -1), BAD);
        }
        for (int key = 0; key < 12; key++) {
            check.due("new: forget(" + key + ")", sets.forget(key), BAD);
            check.due("new: about(" + key + ", 0)", sets.about(key, 0), BAD);
            check.due("new: unit(" + key + ", 0, 0)", sets.unit(key, 0, 0), BAD);
            check.due("new: run(" + key + ")", sets.run(key), BAD);
            check.due("new: tried(" + key + ")", sets.tried(key), BAD);
            check.due("new: match(0, " + key + ")", sets.match(0, key), BAD);
            check.due("new: candidate(0, " + key + ")", sets.candidate(0, key), BAD);
            check.due("new: shown(0, " + key + ", -1)", sets.shown(0, key, -1), BAD);
        }
        check.due("new: matched(0)", sets.matched(0), BAD);
        check.due("new: alert(0, 0)", sets.alert(0, 0), BAD);
        check.due("new: batch()", sets.batch(), 0);
        check.due("new: feed", sets.feed(0, 0, 0, 0, 0), 20);
    }

    private static void newObjectsShareNothing() {
        PercolateSets used = new PercolateSets();
        Check.save(used, "x | *");
        Check.save(used, "?");
        Check.object(used, 0, "a: x;");
        used.run(0);
        Check.tell(used, "more");
        newObjectAnswersNothing();
        check.due("the used one's tape", used.count(8), 4);
        check.due("the used one's queries", used.count(0), 1);
        check.due("the used one's alerts", used.count(3), 1);
    }

    /** "Twenty bytes come behind the tape .. : how many it has. FULL: above 700." */
    private static void sevenHundredBytes() {
        PercolateSets sets = new PercolateSets();
        for (int i = 1; i <= 35; i++) {
            check.due("feed " + i, sets.feed(0, 0, 0, 0, 0), 20 * i);
        }
        check.due("feed of 720", sets.feed(0, 0, 0, 0, 0), FULL);
        check.due("it has 700", sets.count(8), 700);
        for (int n = 20; n >= 1; n--) {
            PercolateSets other = filled();
            check.due("end(" + n + ")", other.end(n), 680 + n);
            check.due("feed to " + (700 + n), other.feed(0, 0, 0, 0, 0), FULL);
            check.due("it has " + (680 + n), other.count(8), 680 + n);
        }
        PercolateSets last = filled();
        check.due("end(0)", last.end(0), 680);
        check.due("feed to 700", last.feed(0, 0, 0, 0, 0), 700);
        check.due("feed again", last.feed(0, 0, 0, 0, 0), FULL);
    }

    private static PercolateSets filled() {
        PercolateSets sets = new PercolateSets();
        for (int i = 0; i < 35; i++) {
            sets.feed(0, 0, 0, 0, 0);
        }
        return sets;
    }

    /** A refused feed() changes no byte: seen when the tape is cut down to what can be read. */
    private static void refusedFeedLeavesTheTape() {
        PercolateSets sets = new PercolateSets();
        Check.tell(sets, "abcdefghijkl | mnopqr");
        while (sets.count(8) + 20 <= 700) {
            sets.feed(0x20202020, 0x20202020, 0x20202020, 0x20202020, 0x20202020);
        }
        check.due("bytes", sets.count(8), 681);
        check.due("refused", sets.feed(0x3f3f3f3f, 0x3f3f3f3f, 0x3f3f3f3f, 0x3f3f3f3f, 0x3f3f3f3f), FULL);
        for (int i = 0; i < 20; i++) {
            check.due("cut " + i, sets.end(0), 661 - 20 * i);
        }
        check.due("save()", sets.save(), 0);
        check.text("needed", Check.neededOf(sets, 0), "abcdefghijkl mnopqr");
    }

    /** "the highest of each number first" */
    private static void highestByteFirst() {
        PercolateSets sets = new PercolateSets();
        check.due("feed", sets.feed(0x61626364, 0x65666768, 0x696a6b6c, 0x7c303132, 0x33343536), 20);
        check.due("feed", sets.feed(0x37383961, 0x62202020, 0x20202020, 0x20202020, 0x207c7a7a), 40);
        check.due("save()", sets.save(), 0);
        check.text("needed", Check.neededOf(sets, 0), "0123456789ab abcdefghijkl zz");
    }

    /** A byte 255 at each of the twenty places is met at its own place, whatever the number's sign. */
    private static void everyByteOfEveryNumber() {
        for (int place = 0; place < 20; place++) {
            int[] numbers = new int[5];
            for (int i = 0; i < 20; i++) {
                int sign = i == place ? 255 : ' ';
                numbers[i / 4] = numbers[i / 4] << 8 | sign;
            }
            PercolateSets sets = new PercolateSets();
            sets.feed(numbers[0], numbers[1], numbers[2], numbers[3], numbers[4]);
            check.due("a byte 255 at " + place, sets.object(0), -11);
            check.due("its place", sets.place(), place);
        }
    }

    /** "Of the last twenty bytes of the tape the first n (0 .. 20) stay: how many it has." */
    private static void zeroToTwentyStay() {
        for (int n = 0; n <= 20; n++) {
            PercolateSets sets = new PercolateSets();
            sets.feed(0, 0, 0, 0, 0);
            check.due("end(" + n + ") of 20", sets.end(n), n);
            check.due("bytes", sets.count(8), n);
            sets.feed(0, 0, 0, 0, 0);
            check.due("end(" + n + ") of " + (20 + n), sets.end(n), 2 * n);
        }
    }

    /** "BAD: another n": the tape stays. */
    private static void anotherNumberIsBad() {
        int[] others = {-1, 21, 22, 40, -20, 256, Integer.MIN_VALUE, Integer.MAX_VALUE};
        PercolateSets sets = new PercolateSets();
        for (int bytes = 20; bytes <= 40; bytes += 20) {
            sets.feed(0, 0, 0, 0, 0);
            for (int n : others) {
                check.due("end(" + n + ") of " + bytes, sets.end(n), BAD);
                check.due("bytes", sets.count(8), bytes);
            }
        }
        check.due("end(20)", sets.end(20), 40);
    }

    /** "BAD: .. or fewer than twenty are there": 19 are too few, for each n. */
    private static void fewerThanTwentyAreBad() {
        PercolateSets sets = new PercolateSets();
        check.due("end(20) of nothing", sets.end(20), BAD);
        sets.feed(0, 0, 0, 0, 0);
        check.due("end(19) of 20", sets.end(19), 19);
        for (int n = 0; n <= 20; n++) {
            check.due("end(" + n + ") of 19", sets.end(n), BAD);
        }
        check.due("bytes", sets.count(8), 19);
        check.due("feed", sets.feed(0, 0, 0, 0, 0), 39);
        check.due("end(0) of 39", sets.end(0), 19);
        check.due("end(0) of 19", sets.end(0), BAD);
    }

    /** Which bytes stay: the first ones of the last twenty, with all ahead of them. */
    private static void firstOnesStay() {
        String text = "abcdefghijklmnopqrst";
        for (int n = 1; n <= 12; n++) {
            PercolateSets sets = new PercolateSets();
            sets.feed(0x61626364, 0x65666768, 0x696a6b6c, 0x6d6e6f70, 0x71727374);
            sets.end(n);
            check.due("save() of " + n, sets.save(), 0);
            check.text("needed", Check.neededOf(sets, 0), text.substring(0, n));
        }
        PercolateSets sets = new PercolateSets();
        Check.tell(sets, "abcdefghij | ");
        sets.feed(0x61626364, 0x65666768, 0x696a6b6c, 0x6d6e6f70, 0x71727374);
        check.due("end(3)", sets.end(3), 16);
        check.due("save()", sets.save(), 0);
        check.text("needed", Check.neededOf(sets, 0), "abc abcdefghij");
    }
}
