/** Promises 24 to 27. */
final class PayTest {
    private static final Check check = new Check();

    public static void main(String[] args) {
        pay();
        small();
        paid();
        sums();
        check.end();
    }

    private static void pay() {
        check.promise(24, "pay");
        PocketHole x = Check.of("coin pence 1; coin pence 2; coin pence 3; coin pence 3; coin pence 6 left; coin pence 0");
        check.due("nothing", x.pay(0), 0);
        check.due("1", x.pay(1), 1);
        check.due("one coin, not 1 and 2; of two the least", x.pay(3), 4);
        check.due("of two the least", x.pay(4), 5);
        check.due("two coins", x.pay(6), 12);
        check.due("all", x.pay(9), 15);
        check.due("too much", x.pay(10), Check.NONE);
        check.due("too much", x.pay(9999), Check.NONE);
        check.due("p -1", x.pay(-1), Check.BEYOND);
        check.due("p 10000", x.pay(10000), Check.BEYOND);
        x.put(2, 1);
        check.due("of those in the POCKET", x.pay(3), 8);
        x.put(3, 4);
        check.due("two coins", x.pay(3), 3);
        check.due("not left, lining or paid", x.pay(6), Check.NONE);
        check.due("nothing changed", x.lie(0), 35);
        x = Check.of("coin pence 240; coin pence 240; coin pence 240; coin pence 240; coin pence 240");
        x.coin(0);
        check.due("all of them", x.pay(1206), 63);
    }

    private static void small() {
        check.promise(25, "small");
        PocketHole x = Check.of("coin size 11 pence 3; coin pence 3; coin size 10 pence 3; wrapped size 6 pence 6; coin pence 6 left");
        check.due("0 is too thick", x.small(3), 2);
        check.due("two thin ones, not a thick one", x.small(6), 6);
        check.due("two thin ones and 0", x.small(9), 7);
        check.due("two thin ones and 3", x.small(12), 14);
        check.due("of none the least", x.small(0), 0);
        check.due("too much", x.small(16), Check.NONE);
        check.due("p -1", x.small(-1), Check.BEYOND);
        check.due("p 10000", x.small(10000), Check.BEYOND);
        check.due("p 9999", x.small(9999), Check.NONE);
        x.rule(0, 7);
        check.due("none is thin: the least", x.small(3), 1);
        check.due("none is thin: the least", x.small(6), 3);
        x.rule(0, 12);
        check.due("all are thin: the least", x.small(6), 3);
        x.change(3, 3, 0);
        check.due("one of 0 pence is one more", x.small(6), 11);
        check.due("one of 0 pence is one more", x.small(0), 8);
        x.put(0, 2);
        check.due("of those in the POCKET", x.small(3), 10);
        check.due("not what is left", x.small(12), Check.NONE);
    }

    private static void paid() {
        check.promise(26, "paid");
        PocketHole x = Check.of("coin pence 1; coin pence 2; coin pence 4; coin pence 8 left");
        x.change(1, 5, 2);
        x.change(1, 6, 2);
        check.due("bits of none", x.paid(16), Check.BEYOND);
        check.due("bits of none", x.paid(-1), Check.BEYOND);
        check.due("bits of none", x.paid(Integer.MIN_VALUE), Check.BEYOND);
        check.due("one is in LEFT", x.paid(9), Check.STATE);
        check.due("BEYOND is asked first", x.paid(24), Check.BEYOND);
        check.due("nothing changed", x.lie(0), 7);
        check.due("none", x.paid(0), 0);
        check.due("two", x.paid(3), 3);
        check.due("PAID", x.lie(4), 3);
        check.due("as by put", x.of(1, 5), 0);
        check.due("as by put", x.of(1, 6), 0);
        check.due("one is PAID", x.paid(5), Check.STATE);
        check.due("the last", x.paid(4), 4);
        check.due("POCKET", x.lie(0), 0);
    }

    private static void sums() {
        check.promise(27, "sums");
        PocketHole x = new PocketHole();
        check.due("none", x.sums(), 1);
        x = Check.of("coin pence 1; coin pence 2; coin pence 3; coin pence 100 left");
        check.due("0 to 6", x.sums(), 7);
        x.put(3, 0);
        check.due("and 100 to 106", x.sums(), 14);
        x.change(3, 3, 0);
        check.due("0 makes no more", x.sums(), 7);
        x.put(0, 1);
        check.due("0, 2, 3, 5", x.sums(), 4);
        x = Check.of("coin pence 64; coin pence 128; coin pence 63; coin pence 65");
        check.due("0 63 64 65 127 128 129 191 192 193 255 256 257 320 and 128 twice", x.sums(), 14);
        x = new PocketHole();
        for (int c = 0; c < 10; c++) {
            x.coin(0);
            x.change(c, 3, 240);
        }
        check.due("as many as coins, and 0", x.sums(), 11);
        for (int c = 0; c < 10; c++) {
            x.change(c, 3, c < 8 ? 1 << c : 240);
        }
        check.due("0 to 735", x.sums(), 736);
    }
}
