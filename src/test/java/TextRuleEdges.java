/** What stands ahead of the promises: rule 3, texts, and what spots and sheets are. */
final class TextRuleEdges {
    private static final String[] KINDS = {"coin", "wrapped", "heavy", "knotted", "key", "flat", "ticket"};

    private TextRuleEdges() {
    }

    static void all(Edges e) {
        tape(e);
        tokens(e);
        items(e);
        coins(e);
        rules(e);
        faults(e);
        faultsOfNumbers(e);
        eleventh(e);
        endsTooEarly(e);
        spotsAndSheets(e);
    }

    private static int answer(String text) {
        PocketHole x = new PocketHole();
        Worlds.feed(x, text);
        return x.text();
    }

    private static void good(Edges e, String text, int items) {
        e.due("text() of '" + text + "'", answer(text), items);
    }

    /** The text has a FAULT there, which changes nothing. */
    private static void fault(Edges e, String text, int place) {
        PocketHole x = new PocketHole();
        Worlds.feed(x, text);
        e.due("text() of '" + text + "'", x.text(), -1 - place);
        e.due("status(-1) behind '" + text + "'", x.status(-1), 0);
        e.alike("behind '" + text + "'", x, new PocketHole());
    }

    private static void tape(Edges e) {
        e.sentence(0, "3. A TEXT is read from THE TAPE (bytes, at most 120).");
        good(e, " ".repeat(117) + "key", 1);
        fault(e, " ".repeat(119) + "k", 119);
        PocketHole x = new PocketHole();
        Worlds.feed(x, " ".repeat(117) + "key");
        e.due("a 121st", x.feed(';', 1), Check.FULL);
        e.due("text() of the 120", x.text(), 1);
    }

    private static void tokens(Edges e) {
        e.sentence(0, "TOKENS, each as long as can be:");
        fault(e, "keykey", 0);
        fault(e, "coinsize 3", 0);
        fault(e, "coin size3size 4", 10);
        fault(e, "coin sizeweight 4", 5);
        fault(e, "hole 1 2", 7);
        good(e, "hole 12", 1);
        e.due("12, not 1", Worlds.of("hole 12").now(1), 12);
        e.sentence(0, "WORDS (letters a to z),");
        for (char strange : "`{AZ@[_".toCharArray()) {
            fault(e, strange + "key", 0);
            fault(e, "key" + strange, 3);
        }
        fault(e, "Key", 0);
        fault(e, "KEY", 0);
        fault(e, "z", 0);
        fault(e, "a", 0);
        e.sentence(0, "NUMBERS (digits, 999 at most),");
        good(e, "hole 0", 1);
        good(e, "hole 9", 1);
        fault(e, "coin pence 999", 11);
        fault(e, "coin pence 1000", 11);
        fault(e, "coin pence 2400", 11);
        fault(e, "hole 4294967296", 5);
        fault(e, "hole 4294967306", 5);
        fault(e, "hole " + "9".repeat(115), 5);
        fault(e, "hole /", 5);
        fault(e, "hole :", 5);
        fault(e, "hole -1", 5);
        fault(e, "hole +1", 5);
        fault(e, "hole 1.", 6);
        e.sentence(0, "SIGN ; ;");
        good(e, "key;key", 2);
        fault(e, "key:key", 3);
        fault(e, "key<key", 3);
        fault(e, "key,key", 3);
        fault(e, ";;", 0);
        e.sentence(0, "blanks may stand between.");
        good(e, "  key  ;  key  ", 2);
        good(e, "hole9;gap9at7;coin size9left", 3);
        good(e, "gap   9   at   7", 1);
        fault(e, "ke y", 0);
        fault(e, "hole 1 0", 7);
        fault(e, "key\t", 3);
        fault(e, "key\n", 3);
        fault(e, "key" + (char) 160, 3);
        fault(e, "key" + (char) 0, 3);
    }

    private static void items(Edges e) {
        e.sentence(0, "TEXT: ITEM { ; ITEM }.");
        fault(e, "", 0);
        good(e, "key", 1);
        good(e, "key;hole 1;gap 1 at 1", 3);
        good(e, "hole 1;".repeat(16) + "hole 1", 17);
        fault(e, ";key", 0);
        fault(e, "key;", 4);
        fault(e, "key;;key", 4);
        fault(e, "key key", 4);
        fault(e, "key hole 1", 4);
        fault(e, "hole 1 key", 7);
        fault(e, "gap 1 at 1 key", 11);
    }

    private static void coin(Edges e, String text, int kind, int... due) {
        PocketHole x = Worlds.of(text);
        e.due("COINS of '" + text + "'", x.count(1), 1);
        e.due("KIND of '" + text + "'", x.of(0, 0), kind);
        for (int i = 0; i < due.length; i++) {
            e.due("of(0, " + (i + 1) + ") of '" + text + "'", x.of(0, i + 1), due[i]);
        }
    }

    private static void coins(Edges e) {
        e.sentence(0, "ITEM: coin, wrapped, heavy, flat, knotted, key or ticket, perhaps size and a NUMBER (1 to 40), "
            + "perhaps weight and a NUMBER (1 to 50), perhaps pence and a NUMBER (0 to 240), perhaps left: "
            + "a new COIN (in LEFT, if that is told);");
        for (int kind = 0; kind <= 6; kind++) {
            String name = KINDS[kind];
            coin(e, name, kind, 8, 5, 6, 0, 0, 0, -1);
            coin(e, name + " left", kind, 8, 5, 6, 3, 0, 0, -1);
            coin(e, name + " size 1 weight 1 pence 0", kind, 1, 1, 0, 0, 0, 0, -1);
            coin(e, name + " size 40 weight 50 pence 240 left", kind, 40, 50, 240, 3, 0, 0, -1);
            coin(e, name + " size 2", kind, 2, 5, 6, 0);
            coin(e, name + " weight 2", kind, 8, 2, 6, 0);
            coin(e, name + " pence 2", kind, 8, 5, 2, 0);
            coin(e, name + " size 2 pence 3", kind, 2, 5, 3, 0);
            coin(e, name + " size 2 left", kind, 2, 5, 6, 3);
            coin(e, name + " weight 2 left", kind, 8, 2, 6, 3);
            coin(e, name + " pence 2 left", kind, 8, 5, 2, 3);
            fault(e, name + "s", 0);
            fault(e, name.substring(1), 0);
            fault(e, name.substring(0, name.length() - 1), 0);
        }
        fault(e, "coin weight 2 size 2", 14);
        fault(e, "coin pence 2 size 2", 13);
        fault(e, "coin pence 2 weight 2", 13);
        fault(e, "coin left size 2", 10);
        fault(e, "coin size 2 size 2", 12);
        fault(e, "coin weight 2 weight 2", 14);
        fault(e, "coin pence 2 pence 2", 13);
        fault(e, "coin left left", 10);
        fault(e, "coin 2", 5);
        fault(e, "coin at 2", 5);
        for (String alone : new String[] {"size 2", "weight 2", "pence 2", "left", "at 2"}) {
            fault(e, alone, 0);
        }
    }

    private static void rules(Edges e) {
        e.sentence(0, "hole and a NUMBER (0 to 99);");
        for (int v = 0; v <= 99; v++) {
            e.due("HOLE", Worlds.of("hole " + v).now(1), v);
        }
        fault(e, "hole 100", 5);
        fault(e, "hole left", 5);
        fault(e, "hole 1 left", 7);
        fault(e, "holes 1", 0);
        e.sentence(0, "gap, a NUMBER (0 to 99), at, a NUMBER (0 to 7).");
        for (int v = 0; v <= 99; v++) {
            PocketHole x = Worlds.of("gap " + v + " at " + v % 8);
            e.due("GAP", x.now(2), v);
            e.due("AT", x.now(3), v % 8);
        }
        fault(e, "gap 100 at 1", 4);
        fault(e, "gap 1 at 8", 9);
        fault(e, "gap 1 at 10", 9);
        fault(e, "gap 1 at at", 9);
        fault(e, "gap at 1", 4);
        fault(e, "gap 1 1", 6);
        fault(e, "gap 1 hole 1", 6);
        fault(e, "gap 1;at 1", 5);
        fault(e, "gaps 1 at 1", 0);
    }

    private static void faults(Edges e) {
        e.sentence(0, "FAULT: the place (from 0) of the first byte of the first TOKEN that can't stand there");
        fault(e, "penny", 0);
        fault(e, "  penny", 2);
        fault(e, "key;penny;!", 4);
        fault(e, "key; penny", 5);
        fault(e, "coin;hole 4;gap 5 at 6;key size 7;penny", 34);
        fault(e, "hole ;", 5);
        fault(e, "coin size ;", 10);
    }

    private static void faultsOfNumbers(Edges e) {
        e.sentence(0, "(a NUMBER that isn't as told,");
        fault(e, "coin size 0", 10);
        fault(e, "coin size 41", 10);
        fault(e, "coin weight 0", 12);
        fault(e, "coin weight 51", 12);
        fault(e, "coin pence 241", 11);
        fault(e, "hole 100;penny", 5);
        fault(e, "gap 100 at 8", 4);
        fault(e, "gap 99 at 8", 10);
        e.sentence(0, "another WORD,");
        fault(e, "hole ten", 5);
        fault(e, "coin size ten", 10);
        fault(e, "coin right", 5);
        fault(e, "gap 1 in 1", 6);
        fault(e, "purse", 0);
        for (String kind : KINDS) {
            otherWords(e, "", kind, "");
        }
        otherWords(e, "coin ", "size", " 1");
        otherWords(e, "coin ", "weight", " 1");
        otherWords(e, "coin ", "pence", " 1");
        otherWords(e, "coin ", "left", "");
        otherWords(e, "", "hole", " 1");
        otherWords(e, "", "gap", " 1 at 1");
        otherWords(e, "gap 1 ", "at", " 1");
        e.sentence(0, "a byte that begins no TOKEN,");
        for (int b : new int[] {0, 9, 10, 13, 31, 33, 47, 58, 60, 64, 65, 90, 96, 123, 127, 128, 159, 160, 224, 255}) {
            fault(e, "key " + (char) b, 4);
            fault(e, (char) b + "key", 0);
        }
    }

    /** The word is good there, but not with another letter, one letter less, or one more. */
    private static void otherWords(Edges e, String ahead, String word, String behind) {
        good(e, ahead + word + behind, 1);
        for (int i = 0; i < word.length(); i++) {
            String begin = word.substring(0, i);
            String end = word.substring(i + 1);
            char other = word.charAt(i) == 'z' ? 'y' : 'z';
            fault(e, ahead + begin + other + end + behind, ahead.length());
            fault(e, ahead + begin + end + behind, ahead.length());
            fault(e, ahead + begin + word.charAt(i) + word.charAt(i) + end + behind, ahead.length());
        }
    }

    private static void eleventh(Edges e) {
        e.sentence(0, "the WORD of an 11th COIN: its own),");
        good(e, "key;".repeat(9) + "key", 10);
        fault(e, "key;".repeat(10) + "key", 40);
        fault(e, "key;".repeat(10) + "  ticket size 99", 42);
        for (int coins = 0; coins <= 10; coins++) {
            PocketHole x = new PocketHole();
            PocketHole twin = new PocketHole();
            for (int c = 0; c < coins; c++) {
                x.coin(0);
                twin.coin(0);
            }
            Worlds.feed(x, "hole 1;".repeat(2) + "key;".repeat(10 - coins) + "key");
            e.due("with " + coins + " COINS there", x.text(), -1 - (14 + 4 * (10 - coins)));
            e.alike("with " + coins + " COINS there", x, twin);
        }
        PocketHole full = Worlds.tenOf(0);
        Worlds.feed(full, "hole 1;gap 1 at 1");
        e.due("others may come", full.text(), 2);
        Worlds.feed(full, "penny");
        e.due("another WORD", full.text(), -1);
    }

    private static void endsTooEarly(Edges e) {
        e.sentence(0, "or how many bytes there are if it ends too early.");
        for (String text : new String[] {"", " ", "key;", "key; ", "hole", "hole ", "gap", "gap 1", "gap 1 ", "gap 1 at",
            "gap 1 at ", "coin size", "coin size ", "coin size 1 weight", "coin weight", "coin pence  ", "key;hole"}) {
            fault(e, text, text.length());
        }
        fault(e, "key;" + " ".repeat(116), 120);
        fault(e, " ".repeat(116) + "hole", 120);
    }

    private static void spotsAndSheets(Edges e) {
        e.sentence(0, "SPOTS 0 to 9 hold a COIN or nothing (at first).");
        PocketHole x = Worlds.of("coin");
        e.due("at first", x.count(7), 0);
        for (int spot = 0; spot <= 9; spot++) {
            e.due("as(" + spot + ", 0)", x.as(spot, 0), Check.MISSING);
            e.due("hold(" + spot + ", 0)", x.hold(spot, 0), 1);
            e.due("count(7)", x.count(7), spot + 1);
        }
        e.beyond("hold(?, 0)", 0, 9, (y, v) -> y.hold(v, 0));
        e.sentence(0, "SHEETS 0 to 3: rows of at most 40 numbers of 8, 16 or 32 bits "
            + "(told with their sign: of 8 bits 255 is -1), or MISSING (at first).");
        for (int s = 0; s <= 3; s++) {
            e.due("at first load(" + s + ")", x.load(s), Check.MISSING);
            for (int bits : new int[] {8, 16, 32}) {
                e.due("sheet(" + s + ", " + bits + ", 40)", x.sheet(s, bits, 40), 40);
                e.due("sheet(" + s + ", " + bits + ", 41)", x.sheet(s, bits, 41), Check.BEYOND);
                e.due("there are 40 still", x.write(s, 39, 1), 1);
            }
        }
        e.beyond("sheet(?, 8, 1)", 0, 3, (y, v) -> y.sheet(v, 8, 1));
        signs(e);
    }

    /** A number with its sign is no PLACE and no SIZE, whatever it would be without. */
    private static void signs(Edges e) {
        PocketHole x = Worlds.of("ticket");
        for (int bits : new int[] {8, 16, 32}) {
            x.sheet(0, bits, 1);
            for (int v : new int[] {-1, 1 << bits - 1, (1 << bits - 1) + 1, (1 << bits - 1) + 40}) {
                x.write(0, 0, v);
                e.due("judge(0, 0) of " + v, x.judge(0, 0), 1);
                e.due("load(0) of " + v, x.load(0), 0);
            }
        }
    }
}
