/** Promises 37 to 39, sentence by sentence; FAULTS stand with the terms. */
final class TapeEdges {
    private static final int BLANKS = 0x20202020;

    private TapeEdges() {
    }

    static void all(Edges e) {
        feed(e);
        feedFull(e);
        wipe(e);
        text(e);
        fault(e);
    }

    /** So many blanks on THE TAPE. */
    private static PocketHole blanks(int n) {
        PocketHole x = Worlds.rich();
        x.wipe();
        for (int left = n; left > 0; left -= 4) {
            x.feed(BLANKS, Math.min(4, left));
        }
        return x;
    }

    private static void feed(Edges e) {
        e.sentence(37, "THE TAPE gets the n lowest bytes of a number behind it, the highest of these first (n 1 to 4): how many it has.");
        PocketHole x = new PocketHole();
        e.due("feed(.., 4)", x.feed('k' << 24 | 'e' << 16 | 'y' << 8 | ';', 4), 4);
        e.due("feed(.., 3)", x.feed('!' << 24 | 'h' << 16 | 'o' << 8 | 'l', 3), 7);
        e.due("feed(.., 1)", x.feed('!' << 24 | '!' << 16 | '!' << 8 | 'e', 1), 8);
        e.due("feed(.., 2)", x.feed('!' << 24 | '!' << 16 | '4' << 8 | '2', 2), 10);
        e.due("count(5)", x.count(5), 10);
        e.due("key;hole42", x.text(), 2);
        e.due("HOLE", x.now(1), 42);
        x = new PocketHole();
        e.due("bytes of 255", x.feed(-1, 4), 4);
        e.due("they are no letters", x.text(), -1);
        x = new PocketHole();
        x.feed('k' << 24 | 'e' << 16 | 'y' << 8 | 0xff, 4);
        e.due("a byte of 255 behind a WORD", x.text(), -4);
        x = new PocketHole();
        x.feed('k' << 24 | 'e' << 16 | 'y' << 8, 4);
        e.due("a byte of 0 behind a WORD", x.text(), -4);
        e.sentence(37, "BEYOND: n.");
        e.beyond("feed(1, ?)", 1, 4, (y, v) -> y.feed(1, v));
        e.beyond(() -> blanks(120), "feed(1, ?) of a full one", 1, 4, (y, v) -> y.feed(1, v));
    }

    private static void feedFull(Edges e) {
        e.sentence(37, "FULL.");
        for (int n = 1; n <= 4; n++) {
            int asked = n;
            e.due("120 at last with " + n, blanks(120 - n).feed(BLANKS, n), 120);
            e.refused(() -> blanks(121 - asked), "121 with " + n, x -> x.feed(BLANKS, asked), Check.FULL);
            e.refused(() -> blanks(120), "of 120 with " + n, x -> x.feed(BLANKS, asked), Check.FULL);
        }
        PocketHole x = blanks(120);
        x.wipe();
        e.due("it has room again", x.feed(BLANKS, 4), 4);
    }

    private static void wipe(Edges e) {
        e.sentence(38, "THE TAPE is empty: how many it had.");
        PocketHole x = Worlds.rich();
        e.due("wipe()", x.wipe(), 3);
        e.due("count(5)", x.count(5), 0);
        e.due("wipe() of an empty one", x.wipe(), 0);
        e.still(PocketHole::new, "wipe() at first", y -> y.wipe(), 0);
        e.due("wipe() of a full one", blanks(120).wipe(), 120);
        e.alike("all else", x, blanks(0));
        x = blanks(120);
        x.wipe();
        Worlds.feed(x, "hole 3");
        e.due("nothing is left of it", x.text(), 1);
    }

    private static int answer(String text) {
        PocketHole x = new PocketHole();
        Worlds.feed(x, text);
        return x.text();
    }

    private static void text(Edges e) {
        e.sentence(39, "THE TAPE is a TEXT, and empty then;");
        PocketHole x = Worlds.rich();
        e.due("text()", x.text(), 1);
        e.due("count(5)", x.count(5), 0);
        e.due("text() of an empty one", x.text(), -1);
        e.due("COINS", x.count(1), 8);

        e.sentence(39, "all that it tells is so, item by item:");
        x = Worlds.of("hole 1;gap 2 at 3;coin left;hole 4;gap 5 at 6;heavy size 7 weight 8 pence 9");
        int[] now = {0, 4, 5, 6, 0, 8, 5};
        for (int what = 0; what < now.length; what++) {
            e.due("now(" + what + ")", x.now(what), now[what]);
        }
        int[] heavy = {2, 7, 8, 9, 0, 0, 0, -1};
        for (int what = 0; what < heavy.length; what++) {
            e.due("of(1, " + what + ")", x.of(1, what), heavy[what]);
        }
        PocketHole told = Worlds.rich();
        told.wipe();
        Worlds.feed(told, "hole 99;flat size 40 weight 50 pence 240 left;gap 0 at 0");
        told.text();
        PocketHole made = Worlds.rich();
        made.wipe();
        made.rule(0, 99);
        made.coin(5);
        made.change(7, 1, 40);
        made.change(7, 2, 50);
        made.change(7, 3, 240);
        made.put(7, 3);
        made.rule(1, 0);
        made.rule(2, 0);
        e.alike("all else", told, made);

        e.sentence(39, "how many ITEMS.");
        e.due("one", answer("key"), 1);
        e.due("ten COINS", answer("key;".repeat(9) + "key"), 10);
        e.due("the most there can be, of 119 bytes", answer("hole0;".repeat(19) + "hole0"), 20);
        e.due("of 120 bytes, a NUMBER at the end", answer("hole0;".repeat(19) + "hole00"), 20);
        e.due("of 120 bytes, a WORD at the end", answer(" ".repeat(117) + "key"), 1);
        e.due("of 120 bytes, a blank at the end", answer("key" + " ".repeat(117)), 1);
    }

    private static void fault(Edges e) {
        e.sentence(39, "With a FAULT: -1 less the FAULT (nothing changes but that THE TAPE is empty; no finding).");
        faulty(e, "", 0);
        faulty(e, "!", 0);
        faulty(e, "hole 1;gap 2 at 3;coin left;key size 4;", 39);
        faulty(e, "hole 1;gap 2 at 3;coin left;key size 41", 37);
        faulty(e, "hole 1;gap 2 at 8", 16);
        faulty(e, "gap 99 left", 7);
        faulty(e, "key;key;key;key", 12);
        faulty(e, " ".repeat(119) + "!", 119);
        faulty(e, " ".repeat(117) + "ke!", 117);
        faulty(e, " ".repeat(116) + "key!", 119);
        faulty(e, " ".repeat(116) + "key;", 120);
        faulty(e, " ".repeat(120), 120);
    }

    /** On a rich object, for which three more coins are the last. */
    private static void faulty(Edges e, String text, int place) {
        PocketHole x = blanks(0);
        Worlds.feed(x, text);
        PocketHole wiped = blanks(0);
        Worlds.feed(wiped, text);
        wiped.wipe();
        e.due("text() of " + text, x.text(), -1 - place);
        e.due("count(5)", x.count(5), 0);
        e.due("status(-1)", x.status(-1), wiped.status(-1));
        e.alike("behind " + text, x, wiped);
    }
}
