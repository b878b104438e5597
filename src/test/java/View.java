/** All that public calls tell of an object, as a text; the object is used up by it. */
final class View {
    private final PocketHole x;
    private final StringBuilder seen = new StringBuilder();

    private View(PocketHole x) {
        this.x = x;
    }

    static String of(PocketHole x) {
        View view = new View(x);
        view.coat();
        view.tell("undo", x.undo());
        view.coat();
        view.tape();
        view.sheets();
        return view.seen.toString();
    }

    private void tell(String call, int answer) {
        seen.append(call).append(' ').append(answer).append("; ");
    }

    private void coat() {
        for (int what = 0; what <= 6; what++) {
            tell("now " + what, x.now(what));
        }
        for (int what = 0; what <= 7; what++) {
            tell("count " + what, x.count(what));
        }
        for (int c = 0; c < x.count(1); c++) {
            for (int what = 0; what <= 7; what++) {
                tell("of " + c + ", " + what, x.of(c, what));
            }
        }
        for (int spot = 0; spot <= 9; spot++) {
            tell("spot " + spot, x.as(spot, 0));
        }
    }

    private void tape() {
        tell("text", x.text());
        for (int what = 1; what <= 3; what++) {
            tell("now " + what, x.now(what));
        }
        tell("coins", x.count(1));
        tell("left", x.lie(3));
        tell("pence", x.count(3));
    }

    /** A number of a sheet is told by the SIZE that coin 0 gets of it, so it should be one. */
    private void sheets() {
        if (x.count(1) == 0) {
            x.coin(0);
        }
        for (int s = 0; s <= 3; s++) {
            int came = 1;
            for (int i = 0; i <= 40 && came == 1; i++) {
                came = x.copy(s, i, s, 0, 1);
                tell("sheet " + s + ", " + i, came);
                first(s);
            }
            x.write(s, 0, 256 + 7);
            first(s);
            x.write(s, 0, 65536 + 9);
            first(s);
        }
    }

    private void first(int s) {
        tell("load " + s, x.load(s) > 0 ? x.of(0, 1) : 0);
    }
}
