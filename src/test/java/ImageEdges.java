/** Promises 47 to 51, sentence by sentence. */
final class ImageEdges {
    private ImageEdges() {
    }

    static void all(Edges e) {
        image(e);
        undo(e);
        tear(e);
        count(e);
        status(e);
    }

    /** Changes all that an image keeps. */
    private static void stirUp(PocketHole x) {
        for (int c = 0; c < 7; c++) {
            x.change(c, 0, 5);
            x.change(c, 1, 33);
            x.change(c, 2, 44);
            x.change(c, 3, 55);
            x.put(c, (c + x.of(c, 4) + 1) % 5);
            x.change(c, 5, 8);
            x.change(c, 6, 6);
        }
        x.coin(1);
        x.steps(3);
        x.rule(0, 50);
        x.rule(1, 51);
        x.rule(2, 1);
        x.seed(12345);
        for (int spot = 0; spot <= 9; spot++) {
            x.hold(spot, 7);
        }
    }

    private static void image(Edges e) {
        e.sentence(47, "All but THE TAPE and SHEETS is kept: 1.");
        PocketHole x = Worlds.rich();
        e.due("image()", x.image(), 1);
        stirUp(x);
        x.undo();
        PocketHole same = Worlds.rich();
        same.image();
        e.alike("all that is kept", x, same);
        x = Worlds.rich();
        x.image();
        changeTheRest(x);
        stirUp(x);
        x.undo();
        same = Worlds.rich();
        same.image();
        changeTheRest(same);
        e.alike("what isn't kept", x, same);
        x = new PocketHole();
        e.due("image() at first", x.image(), 1);
        e.due("image() again", x.image(), 1);
        for (int c = 0; c < 10; c++) {
            x.coin(c % 7);
        }
        x.undo();
        same = new PocketHole();
        same.image();
        e.alike("no COINS are kept, too", x, same);
    }

    private static void changeTheRest(PocketHole x) {
        x.wipe();
        Worlds.feed(x, "ticket");
        x.write(0, 1, 30);
        x.sheet(1, 0, 0);
        x.sheet(3, 32, 1);
    }

    private static void undo(Edges e) {
        e.sentence(48, "It becomes what was kept latest (which stays): STEP.");
        PocketHole x = Worlds.rich();
        x.wipe();
        x.image();
        x.steps(1);
        x.image();
        stirUp(x);
        e.due("undo()", x.undo(), 14);
        stirUp(x);
        e.due("undo() again", x.undo(), 14);
        PocketHole same = Worlds.rich();
        same.wipe();
        same.steps(1);
        same.image();
        e.alike("what was kept latest", x, same);
        x = new PocketHole();
        x.image();
        x.steps(100);
        e.due("undo() to STEP 0", x.undo(), 0);
        x = Worlds.bare(9999);
        x.image();
        e.due("undo() to STEP 9999", x.undo(), 9999);
        x = Worlds.tenOf(4);
        x.image();
        x.change(9, 1, 40);
        x.hold(9, 9);
        x.undo();
        e.due("the last COIN", x.of(9, 1), 8);
        e.due("the last SPOT", x.as(9, 0), Check.MISSING);
        e.sentence(48, "NONE: nothing is kept.");
        e.refused(PocketHole::new, "undo() at first", y -> y.undo(), Check.NONE);
        e.refused(ImageEdges::torn, "undo() behind tear()", y -> y.undo(), Check.NONE);
    }

    private static PocketHole torn() {
        PocketHole x = Worlds.rich();
        x.tear();
        return x;
    }

    private static void tear(Edges e) {
        e.sentence(49, "Nothing is kept: 1 if something was, else 0.");
        e.still(PocketHole::new, "tear() at first", x -> x.tear(), 0);
        e.still(ImageEdges::torn, "tear() again", x -> x.tear(), 0);
        PocketHole x = Worlds.rich();
        e.due("tear()", x.tear(), 1);
        e.due("undo()", x.undo(), Check.NONE);
        e.due("STEP", x.now(0), 13);
        x.image();
        x.undo();
        e.due("behind image(), undo()", x.tear(), 1);
        x.image();
        x.image();
        e.due("behind two images", x.tear(), 1);
        e.due("no other is kept", x.tear(), 0);
    }

    private static void count(Edges e) {
        e.sentence(50, "0 STEP, 1 COINS, 2 HOLE, 3 PENCE of all, 4 CLINKS, 5 bytes of THE TAPE, 6 z, 7 SPOTS that hold something.");
        int[] rich = {13, 7, 17, 127, 0, 3, -78, 3};
        int[] bare = {0, 0, 10, 0, 0, 0, 1, 0};
        int[] most = {9999, 10, 99, 2400, 45, 120, -1000001, 10};
        PocketHole full = mostOfAll();
        for (int what = 0; what <= 7; what++) {
            int asked = what;
            e.still("count(" + what + ")", x -> x.count(asked), rich[what]);
            e.still(PocketHole::new, "count(" + what + ") at first", x -> x.count(asked), bare[what]);
            e.due("count(" + what + "), the most", full.count(what), most[what]);
        }
        e.due("no finding", full.status(-1), 0);
        e.sentence(50, "BEYOND: another what.");
        e.beyond("count(?)", 0, 7, (x, v) -> x.count(v));
    }

    private static PocketHole mostOfAll() {
        PocketHole x = Worlds.bare(9999);
        for (int c = 0; c < 10; c++) {
            x.coin(0);
            x.change(c, 3, 240);
            x.put(c, 1);
            x.hold(c, c);
        }
        x.rule(0, 99);
        x.seed(-1000001);
        for (int i = 0; i < 30; i++) {
            x.feed(0, 4);
        }
        return x;
    }

    private static void status(Edges e) {
        e.sentence(51, "How many acts answered a finding ever (undo() takes none back): which -1: all, 0 to 6: BEYOND to SIZE.");
        int[] rich = {1, 0, 0, 1, 0, 0, 0};
        for (int which = 0; which <= 6; which++) {
            int asked = which;
            e.still("status(" + which + ")", x -> x.status(asked), rich[which]);
            e.still(PocketHole::new, "status(" + which + ") at first", x -> x.status(asked), 0);
        }
        e.still("status(-1)", x -> x.status(-1), 2);
        e.still(PocketHole::new, "status(-1) at first", x -> x.status(-1), 0);
        PocketHole x = Worlds.rich();
        x.undo();
        e.due("undo() takes none back", x.status(-1), 2);
        x.tear();
        x.undo();
        e.due("undo() that is refused", x.status(3), 2);
        for (int i = 0; i < 400; i++) {
            x.coin(7);
        }
        e.due("many", x.status(0), 401);
        e.due("all", x.status(-1), 403);
        e.sentence(51, "BEYOND (counted from then on): another one.");
        e.beyond("status(?)", -1, 6, (y, v) -> y.status(v));
        x = new PocketHole();
        x.status(7);
        e.due("it is counted", x.status(0), 1);
        x.status(-2);
        e.due("it is counted", x.status(-1), 2);
    }
}
