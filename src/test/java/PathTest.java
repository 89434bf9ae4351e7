/** Under "Terms": the sentences of A PATH. */
final class PathTest {
    private PathTest() {
    }

    public static void main(String[] args) {
        Check.sentence("a PATH from the first HOME ..", PathTest::fromTheFirstHome);
        Check.sentence(".. from the second one", PathTest::fromTheSecondHome);
        Check.sentence("from BUCKET b, for t = 0 .. 5", PathTest::oneToSixSteps);
        Check.sentence("No PATH, if t = 5 does not end it.", PathTest::noSeventhStep);
        Check.sentence("of its SLOTS, from t modulo 4 on", PathTest::slotByStep);
        Check.sentence("round, the first that is not on the PATH yet is on it", PathTest::passesItsOwnSlots);
        Check.sentence("(if there is none, there is no PATH)", PathTest::closedBuckets);
        Check.sentence("its KEY's other HOME is the next b (the first one)", PathTest::backToTheFirstHome);
        Check.sentence("its KEY's other HOME is the next b (both being the same)", PathTest::sevenAndZero);
        Check.sentence("if that has an empty SLOT, the least is the end", PathTest::leastEmptyIsTheEnd);
        Check.sentence("if that has an empty SLOT, .. the end (and no SLOT behind it)", PathTest::endsAtOnce);
        Check.sentence("Along a PATH the KEY put goes to the first SLOT, what was there to the next, and so on"
            + " to the end.", PathTest::keysWithTheirValues);
        Check.sentence("The JOURNAL tells all these (a WRITE); .. (a WRITE of its PAGE each time); then the JOURNAL"
            + " tells nothing (a WRITE).", PathTest::writes);
        Check.sentence("The JOURNAL tells all these (as the first WRITE)", PathTest::journalComesFirst);
        Check.end();
    }

    /** Buckets 0 and up are full; the key of slot t modulo 4 of bucket t can go on to the next, the last one to 6. */
    private static int[] chain(Layout at, int steps) {
        at.fill(7, 0, 0, 0, 0);
        int[] movers = new int[steps];
        for (int t = 0; t < steps; t++) {
            int[] others = {7, 7, 7, 7};
            others[t % 4] = t == steps - 1 ? 6 : t + 1;
            movers[t] = at.fill(t, others)[t % 4];
        }
        return movers;
    }

    private static void dueChain(Layout at, int[] movers, int put) {
        at.dueSlot(0, 0, put);
        int last = movers.length - 1;
        for (int t = 0; t < last; t++) {
            at.dueSlot(t + 1, (t + 1) % 4, movers[t]);
        }
        at.dueSlot(6, 0, movers[last]);
    }

    /** The path from the second home would have two slots, and that from the first one has three. */
    private static void fromTheFirstHome() {
        Layout at = new Layout();
        int one = at.fill(1, 2, 4, 4, 4)[0];
        int two = at.fill(2, 1, 6, 1, 1)[1];
        int passedOver = at.fill(4, 6, 1, 1, 1)[0];
        int put = at.put(1, 4, 2);
        at.dueSlot(1, 0, put);
        at.dueSlot(2, 1, one);
        at.dueSlot(6, 0, two);
        at.dueSlot(4, 0, passedOver);
    }

    /** From bucket 1 the steps are 1.0, 4.1, 1.2, 4.3, 1.1 and 4.2: they never come to 4.0, whose key can go on. */
    private static void fromTheSecondHome() {
        Layout at = new Layout();
        int first = at.fill(1, 4, 4, 4, 4)[0];
        int mover = at.fill(4, 6, 1, 1, 1)[0];
        int put = at.put(1, 4, 2);
        at.dueSlot(4, 0, put);
        at.dueSlot(6, 0, mover);
        at.dueSlot(1, 0, first);
        Check.due("slots of the path", at.x.count(7), 2);
    }

    private static void oneToSixSteps() {
        for (int steps = 1; steps <= 6; steps++) {
            Layout at = new Layout();
            int[] movers = chain(at, steps);
            int put = at.put(0, 7, 2);
            Check.due("slots of a path of " + steps + " steps, with its end", at.x.count(7), steps + 1);
            dueChain(at, movers, put);
        }
    }

    /** From bucket 1 a seventh step would come to 1.3, whose key could go on; bucket 2 is closed. */
    private static void noSeventhStep() {
        Layout at = new Layout();
        at.close(2, 3);
        at.fill(4, 1, 1, 1, 1);
        int mover = at.fill(1, 4, 4, 4, 6)[3];
        int put = at.put(1, 2, 3);
        at.dueSlot(8, 0, put);
        at.dueSlot(1, 3, mover);
        at.dueEmpty(6, 0);
        Check.due("slots of the last path", at.x.count(7), 0);
    }

    /** Steps 4 and 5 are the first ones in their buckets, and take slots 0 and 1 of them. */
    private static void slotByStep() {
        Layout at = new Layout();
        int[] movers = chain(at, 6);
        int put = at.put(0, 7, 2);
        at.dueSlot(0, 0, put);
        at.dueSlot(1, 1, movers[0]);
        at.dueSlot(2, 2, movers[1]);
        at.dueSlot(3, 3, movers[2]);
        at.dueSlot(4, 0, movers[3]);
        at.dueSlot(5, 1, movers[4]);
        at.dueSlot(6, 0, movers[5]);
    }

    /** The steps 1.0, 4.1, 1.2, 4.3; then 1.1, since 1.0 is on the path; then 4.2, since 4.1 is. */
    private static void passesItsOwnSlots() {
        Layout at = new Layout();
        int[] one = at.fill(1, 4, 4, 4, 4);
        int[] four = at.fill(4, 1, 1, 6, 1);
        int put = at.put(1, 4, 2);
        Check.due("slots of the path", at.x.count(7), 7);
        at.dueSlot(1, 0, put);
        at.dueSlot(4, 1, one[0]);
        at.dueSlot(1, 2, four[1]);
        at.dueSlot(4, 3, one[2]);
        at.dueSlot(1, 1, four[3]);
        at.dueSlot(4, 2, one[1]);
        at.dueSlot(6, 0, four[2]);
        at.dueSlot(1, 3, one[3]);
        at.dueSlot(4, 0, four[0]);
    }

    /**
     * Six steps come to one bucket three times at the most, so they never find all its slots on the path, and
     * never go round past slot 3: two closed buckets, where every step comes back, are the nearest to it.
     */
    private static void closedBuckets() {
        for (int one = 0; one < 8; one++) {
            int other = (one + 3) % 8;
            Layout at = new Layout();
            at.close(one, other);
            String before = Check.slotsOf(at.x);
            int put = at.put(one, other, 3);
            at.dueSlot(8, 0, put);
            at.x.remove(put);
            Check.dueSame("slots of closed buckets", Check.slotsOf(at.x), before);
        }
    }

    /** The key of 1.0 stands in its second home, since its first one, 6, was full. */
    private static void backToTheFirstHome() {
        Layout at = new Layout();
        int[] six = at.fill(6, 1, 1, 1, 1);
        int mover = at.put(6, 1, 1);
        at.dueSlot(1, 0, mover);
        at.fill(1, 4, 4, 4);
        at.fill(4, 1, 1, 1, 1);
        at.x.remove(six[2]);
        int put = at.put(1, 4, 2);
        at.dueSlot(1, 0, put);
        at.dueSlot(6, 2, mover);
    }

    /** Both homes of 43 are reckoned as 7, so its second one is 0. */
    private static void sevenAndZero() {
        Layout at = new Layout();
        at.x.put(43, 5);
        at.fill(7, 1, 1, 1);
        at.fill(1, 7, 7, 7, 7);
        at.dueSlot(7, 0, at.put(7, 1, 2));
        Check.due("43 has gone on from 7 to 0", at.x.slot(0, 0, 1), 43);
        Layout back = new Layout();
        int[] seven = back.fill(7, 1, 1, 1, 1);
        back.x.put(43, 5);
        back.fill(0, 1, 1, 1);
        back.fill(1, 0, 0, 0, 0);
        back.x.remove(seven[3]);
        back.dueSlot(0, 0, back.put(0, 1, 2));
        Check.due("43 has gone on from 0 to 7", back.x.slot(7, 3, 1), 43);
    }

    private static void leastEmptyIsTheEnd() {
        Layout at = new Layout();
        int[] six = at.fill(6, 1, 1, 1, 1);
        int mover = at.fill(1, 6, 4, 4, 4)[0];
        at.fill(4, 1, 1, 1, 1);
        at.x.remove(six[3]);
        at.x.remove(six[1]);
        at.put(1, 4, 2);
        at.dueSlot(6, 1, mover);
        at.dueEmpty(6, 3);
    }

    /** A path of two slots, though the key of 6.1 could go on as well. */
    private static void endsAtOnce() {
        Layout at = new Layout();
        int[] six = at.fill(6, 3, 3, 3);
        int mover = at.fill(1, 6, 4, 4, 4)[0];
        at.fill(4, 1, 1, 1, 1);
        at.put(1, 4, 2);
        Check.due("slots of the path", at.x.count(7), 2);
        at.dueSlot(6, 3, mover);
        at.dueSlot(6, 1, six[1]);
        at.dueEmpty(3, 0);
    }

    private static void keysWithTheirValues() {
        Layout at = new Layout();
        int[] movers = chain(at, 3);
        int put = at.key(0, 7);
        Check.due("put of the least value", at.x.put(put, Integer.MIN_VALUE), 2);
        Check.due("value of the key put", at.x.slot(0, 0, 2), Integer.MIN_VALUE);
        Check.due("the key put", at.x.slot(0, 0, 1), put);
        at.dueSlot(1, 1, movers[0]);
        at.dueSlot(2, 2, movers[1]);
        at.dueSlot(6, 0, movers[2]);
        Check.due("keys", at.x.count(0), 4 + 3 * 4 + 1);
    }

    private static void writes() {
        for (int steps = 1; steps <= 6; steps++) {
            Layout at = new Layout();
            chain(at, steps);
            at.x.sync();
            at.put(0, 7, 2);
            Check.due("writes of a path of " + steps + " steps", at.x.count(1), steps + 3);
        }
        Layout twice = new Layout();
        twice.fill(1, 4, 4, 4, 4);
        twice.fill(4, 1, 1, 6, 1);
        twice.x.sync();
        twice.put(1, 4, 2);
        Check.due("writes of a path that comes to its pages thrice", twice.x.count(1), 9);
    }

    /** With no write done nothing is put, with the first one done all is: so that one tells every slot. */
    private static void journalComesFirst() {
        for (int steps = 1; steps <= 6; steps++) {
            Layout at = new Layout();
            int[] movers = chain(at, steps);
            at.x.sync();
            String before = Check.slotsOf(at.x);
            int put = at.put(0, 7, 2);
            Check.due("writes lost, all of them", at.x.crash(0), steps + 3);
            Check.dueSame("the journal being lost", Check.slotsOf(at.x), before);
            at.again(put, 2);
            Check.due("writes lost, all but the first", at.x.crash(1), steps + 2);
            Check.due("slots that the journal told", at.x.count(8), steps + 1);
            dueChain(at, movers, put);
        }
    }
}
