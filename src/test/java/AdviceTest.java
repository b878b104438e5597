/** Promises 17 to 23. */
final class AdviceTest {
    private static final Check check = new Check();

    public static void main(String[] args) {
        bears();
        latest();
        carry();
        carryWithKeys();
        kindFor();
        worst();
        hem();
        late();
        check.end();
    }

    private static void bears() {
        check.promise(17, "bears");
        PocketHole x = Check.of("coin; coin size 1; ticket; coin left");
        check.due("thinner by 1", x.bears(0, 3), 7);
        check.due("not at the hole yet", x.bears(0, 2), 99);
        check.due("n 1", x.bears(0, 1), 99);
        check.due("n 100", x.bears(0, 100), 7);
        check.due("size 1", x.bears(1, 3), 0);
        check.due("a ticket", x.bears(2, 100), 99);
        check.due("HOLE stays", x.now(1), 10);
        check.due("not there", x.bears(3, 3), Check.STATE);
        check.due("n 0", x.bears(0, 0), Check.BEYOND);
        check.due("n 101", x.bears(0, 101), Check.BEYOND);
        check.due("no such coin", x.bears(4, 1), Check.BEYOND);
        check.due("no such coin", x.bears(-1, 1), Check.BEYOND);
        check.due("BEYOND is asked first", x.bears(3, 0), Check.BEYOND);
        // The key widens it by 1 in the 5th step, ahead of the coins.
        x = Check.of("key size 40; coin; coin size 1; hole 50");
        check.due("ahead of that", x.bears(1, 4), 7);
        check.due("behind that", x.bears(1, 5), 6);
        check.due("ahead of that", x.bears(2, 4), 0);
        check.due("none", x.bears(2, 5), Check.NONE);
        // What goes ahead of it wears the hole.
        x = Check.of("heavy size 3; coin size 8");
        check.due("7 and 1 is too much, 6 and 2, too; 5 and 2 isn't", x.bears(1, 3), 5);
        x = Check.of("coin size 3; coin size 8");
        check.due("7 is worn no more by 3", x.bears(1, 100), 7);
        x = Check.of("coin size 4; coin size 9");
        check.due("8 and 1 is too much", x.bears(1, 100), 7);
    }

    private static void latest() {
        check.promise(18, "latest");
        PocketHole x = Check.of("coin; coin pence 9; gap 8 at 7");
        check.due("none is lost by then", x.latest(10, 0), 10);
        check.due("ahead of the 3rd", x.latest(11, 0), 2);
        check.due("ahead of the 3rd", x.latest(100, 5), 2);
        check.due("so much may be lost", x.latest(11, 6), 11);
        check.due("p 9999", x.latest(100, 9999), 100);
        check.due("nothing changed", x.now(1), 10);
        check.due("nothing changed", x.now(0), 0);
        check.due("n 0", x.latest(0, 0), Check.BEYOND);
        check.due("n 101", x.latest(101, 0), Check.BEYOND);
        check.due("p -1", x.latest(1, -1), Check.BEYOND);
        check.due("p 10000", x.latest(1, 10000), Check.BEYOND);
        x.steps(2);
        check.due("now", x.latest(11, 0), 0);
        x.steps(8);
        check.due("too late", x.latest(1, 5), Check.NONE);
        check.due("so much is lost anyway", x.latest(1, 6), 1);
        x.steps(1);
        check.due("what lies there now isn't lost", x.latest(5, 0), 5);
        // A key opens it again: at STEPS 4, 8, ..; 0 and 1 go when it is 2 wide.
        x = Check.of("coin size 2; coin size 2; key size 40; gap 2 at 0; hole 9");
        check.due("sewn behind 2, it is 1 at STEP 4", x.latest(8, 0), 2);
        check.due("at STEP 8 it is 2, they go in the 10th and one falls in the 11th", x.latest(11, 0), Check.NONE);
        check.due("they go in the 10th", x.latest(10, 0), 2);
    }

    private static void carry() {
        check.promise(19, "carry");
        check.due("no coins", new PocketHole().carry(3), 0);
        PocketHole x = Check.of("coin pence 10; coin size 11 pence 5; coin size 12 pence 7 left; coin size 40 pence 200");
        x.coin(1);
        x.change(4, 3, 100);
        x.put(3, 1);
        x.put(4, 4);
        check.due("0 goes in the 3rd", x.carry(3), 6);
        check.due("not in the 2nd", x.carry(2), 7);
        x.change(1, 5, 9);
        check.due("NEAR is 0 then", x.carry(2), 7);
        check.due("n 100", x.carry(100), 6);
        check.promise(20, "carried");
        check.due("carried", x.carried(3), 12);
        check.due("carried", x.carried(2), 22);
        check.due("n 0", x.carried(0), Check.BEYOND);
        check.due("n 101", x.carried(101), Check.BEYOND);
        check.promise(19, "carry");
        check.due("n 0", x.carry(0), Check.BEYOND);
        check.due("n 101", x.carry(101), Check.BEYOND);
        check.due("nothing changed", x.lie(3), 4);
        check.due("nothing changed", x.of(1, 5), 9);
        x.change(1, 3, 0);
        check.due("one of 0 pence isn't in the least", x.carry(3), 4);
        x.sew();
        check.due("all", x.carry(3), 5);
        x = Check.of("coin size 11 pence 0; coin size 11 pence 1");
        check.due("a penny", x.carry(3), 2);
        x = Check.of("coin; coin left");
        check.due("n 1", x.carry(1), 3);
        check.due("none stays", x.carry(3), 0);
        check.promise(20, "carried");
        check.due("none stays", x.carried(3), 0);
        check.due("n 1", x.carried(1), 12);
    }

    private static void carryWithKeys() {
        check.promise(19, "carry, keys");
        PocketHole x = Check.of("key size 40 pence 10; coin size 11 pence 12");
        check.due("not yet widened", x.carry(4), 3);
        check.due("the dearer", x.carry(5), 2);
        x.change(1, 3, 9);
        check.due("the dearer", x.carry(5), 1);
        x.change(1, 3, 10);
        check.due("of two as dear the least", x.carry(5), 1);
        // What would be GONE doesn't widen the hole: it is not in the set.
        x = Check.of("heavy size 10 pence 1; coin size 12 pence 2");
        check.due("in LEFT it wears nothing", x.carry(50), 2);
        // Two keys widen it by 2 in the 5th step.
        x = Check.of("key size 40 pence 4; key size 40 pence 4; coin size 12 pence 5");
        check.due("one key and the coin", x.carry(5), 5);
        check.due("two keys in the end", x.carry(9), 3);
        check.promise(20, "carried, keys");
        check.due("one key and the coin", x.carried(5), 9);
        check.due("two keys in the end", x.carried(9), 8);
    }

    private static void kindFor() {
        check.promise(21, "kindFor");
        PocketHole x = Check.of("coin; coin left");
        check.due("WRAPPED is thick enough", x.kindFor(0), 1);
        x.change(0, 1, 5);
        check.due("KNOTTED is thick enough", x.kindFor(0), 3);
        x.change(0, 1, 3);
        check.due("a TICKET never comes to the hole", x.kindFor(0), 6);
        x.change(0, 5, 3);
        check.due("it is there: all go in one step", x.kindFor(0), 0);
        x.change(0, 1, 11);
        check.due("all stay but FLAT, TICKET", x.kindFor(0), 0);
        x.change(0, 0, 5);
        check.due("the kind that it is doesn't count", x.kindFor(0), 0);
        check.due("nothing changed", x.of(0, 0), 5);
        check.due("not there", x.kindFor(1), Check.STATE);
        check.due("no such coin", x.kindFor(2), Check.BEYOND);
        check.due("no such coin", x.kindFor(-1), Check.BEYOND);
        x = Check.of("coin size 40; hole 99");
        check.due("all but a TICKET go", x.kindFor(0), 6);
        x = Check.of("key size 34; hole 10");
        check.due("a KEY opens its own way, a COIN stays", x.kindFor(0), 0);
    }

    private static void worst() {
        check.promise(22, "worst");
        PocketHole x = Check.of("coin pence 1; coin pence 2; coin pence 4; gap 8 at 7");
        check.due("without 1 only 0 is lost, without 2, too", x.worst(11), 1);
        check.due("none is lost: the least", x.worst(10), 0);
        x.change(0, 3, 200);
        check.due("without 0 only 1 is lost", x.worst(100), 0);
        x.change(2, 3, 0);
        check.due("what stays doesn't count", x.worst(100), 0);
        x.put(0, 3);
        check.due("of those in the POCKET", x.worst(11), 1);
        check.due("nothing changed", x.lie(0), 6);
        check.due("n 1", x.worst(1), 1);
        check.due("n 0", x.worst(0), Check.BEYOND);
        check.due("n 101", x.worst(101), Check.BEYOND);
        x.put(1, 3);
        x.put(2, 1);
        check.due("none", x.worst(1), Check.NONE);
        // The 2 that it wears lets the two others go.
        x = Check.of("coin size 12; coin size 12; heavy size 10 pence 0; gap 12 at 7");
        check.due("what widens it", x.worst(100), 0);
        x.change(0, 3, 0);
        x.change(1, 3, 0);
        x.coin(0);
        x.change(3, 1, 12);
        check.due("none is dear: 0, 1 fall, 3 stays", x.worst(100), 0);
        x.change(0, 3, 1);
        x.change(1, 3, 5);
        check.due("without it none falls", x.worst(100), 2);
    }

    private static void hem() {
        check.promise(23, "hem");
        PocketHole x = Check.of("coin; coin; gap 8 at 3");
        check.due("none is lost", x.hem(3), 0);
        check.due("n 1", x.hem(1), 0);
        check.due("AT 0 loses one", x.hem(4), 1);
        check.due("AT 1, too", x.hem(5), 2);
        check.due("AT 6, too", x.hem(10), 7);
        check.due("all lose one", x.hem(11), 0);
        check.due("AT stays", x.now(3), 3);
        check.due("n 0", x.hem(0), Check.BEYOND);
        check.due("n 101", x.hem(101), Check.BEYOND);
        check.due("hem 100", x.hem(100), 0);
        // 2, 1, 0 come a step behind one another; each falls as the next one comes to it, so that
        // by the 9th step cells 0 to 6 lose two, 7 loses one.
        x.coin(0);
        x.change(1, 5, 1);
        x.change(2, 5, 2);
        check.due("fewest by far down the hem", x.hem(9), 7);
        x.change(1, 3, 0);
        x.change(2, 3, 0);
        check.due("fewest PENCE, not fewest COINS", x.hem(9), 0);
        x = Check.of("coin pence 3; coin pence 2; gap 8 at 7");
        x.put(0, 1);
        x.put(1, 1);
        check.due("0 falls at once with AT 0", x.hem(1), 1);
    }

    private static void late() {
        PocketHole x = new PocketHole();
        x.coin(6);
        x.coin(6);
        x.put(1, 3);
        Check.stepTo(x, 9990);
        check.promise(17, "bears");
        check.due("STEP 9999", x.bears(0, 9), 99);
        check.due("STEP 10000", x.bears(0, 10), Check.STATE);
        check.promise(18, "latest");
        check.due("STEP 9999", x.latest(9, 0), 9);
        check.due("STEP 10000", x.latest(10, 0), Check.STATE);
        check.due("BEYOND is asked first", x.latest(10, -1), Check.BEYOND);
        check.promise(19, "carry");
        check.due("STEP 9999", x.carry(9), 3);
        check.due("STEP 10000", x.carry(10), Check.STATE);
        check.promise(20, "carried");
        check.due("STEP 9999", x.carried(9), 12);
        check.due("STEP 10000", x.carried(10), Check.STATE);
        check.promise(21, "kindFor");
        check.due("STEP 9990", x.kindFor(0), Check.STATE);
        check.promise(22, "worst");
        check.due("STEP 9999", x.worst(9), 0);
        check.due("STEP 10000", x.worst(10), Check.STATE);
        x.put(0, 3);
        check.due("STATE is asked ahead of NONE", x.worst(10), Check.STATE);
        check.promise(23, "hem");
        check.due("STEP 9999", x.hem(9), 0);
        check.due("STEP 10000", x.hem(10), Check.STATE);
        PocketHole y = new PocketHole();
        y.coin(0);
        Check.stepTo(y, 2);
        y.put(0, 3);
        Check.stepTo(y, 9899);
        y.put(0, 0);
        check.promise(21, "kindFor");
        check.due("STEP 9899", y.kindFor(0), 1);
        Check.stepTo(y, 9900);
        check.due("STEP 9900", y.kindFor(0), Check.STATE);
    }
}
