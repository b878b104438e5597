import java.lang.reflect.Method;
import java.util.ArrayList;
import java.util.Arrays;
import java.util.Comparator;
import java.util.List;
import java.util.Random;

/** Long runs of calls by chance, with the same seeds always: the class answers as the model does. */
final class ModelTest {
    private static final int CALLS = 512;
    private static final String[] PIECES = {"coin", "wrapped", "heavy", "knotted", "key", "flat", "ticket",
        "size", "weight", "pence", "left", "hole", "gap", "at", ";", " ", "0", "7", "41", "240", "1000", "x", "!"};
    private static final int[] EXTREMES = {Integer.MIN_VALUE, -1000001, -2, -1, 0, 1, 7, 8, 10, 11, 40, 41, 99, 100,
        101, 120, 240, 500, 501, 1023, 1024, 9999, 10000, Integer.MAX_VALUE - 1, Integer.MAX_VALUE};

    private static Random random;
    private static Method[] acts;

    public static void main(String[] args) throws ReflectiveOperationException {
        int runs = args.length > 0 ? Integer.parseInt(args[0]) : 150;
        acts = PocketHole.class.getDeclaredMethods();
        acts = Arrays.stream(acts).filter(act -> java.lang.reflect.Modifier.isPublic(act.getModifiers()))
            .sorted(Comparator.comparing(Method::getName)).toArray(Method[]::new);
        for (int run = 0; run < runs; run++) {
            random = new Random(run);
            if (!goesAsTheModel(run)) {
                System.exit(1);
            }
        }
        System.out.println(runs + " runs of " + CALLS + " calls went as the model's");
    }

    private static boolean goesAsTheModel(int run) throws ReflectiveOperationException {
        PocketHole x = new PocketHole();
        Model model = new Model();
        List<String> past = new ArrayList<>();
        boolean isWild = run % 10 == 9;
        int left = CALLS;
        left = begin(x, model, run, left);
        while (left > 0) {
            Method act = acts[random.nextInt(acts.length)];
            String name = act.getName();
            if (name.equals("feed") && !isWild) {
                left = feedText(x, model, left);
                continue;
            }
            if (isRare(name) && random.nextInt(6) != 0) {
                continue;
            }
            int[] told = new int[act.getParameterCount()];
            Object[] boxed = new Object[told.length];
            for (int i = 0; i < told.length; i++) {
                told[i] = isWild || random.nextInt(25) == 0 ? wild() : likely(name, i, model, told);
                boxed[i] = told[i];
            }
            int got = (Integer) act.invoke(x, boxed);
            int due = model.ask(name, told);
            left--;
            past.add(name + Arrays.toString(told) + " = " + got);
            if (got != due) {
                System.out.println("run " + run + ": " + past + ", due is " + due);
                return false;
            }
        }
        return true;
    }

    /** Some runs begin near the last step, most with coins. */
    private static int begin(PocketHole x, Model model, int run, int left) {
        int rest = left;
        if (run % 7 == 3) {
            for (int i = 0; i < 99; i++) {
                x.steps(100);
                model.ask("steps", 100);
                rest--;
            }
        }
        for (int c = random.nextInt(11); c > 0; c--) {
            int kind = random.nextInt(7);
            x.coin(kind);
            model.ask("coin", kind);
            rest--;
        }
        x.rule(1, 99);
        model.ask("rule", 1, 99);
        return rest - 1;
    }

    private static boolean isRare(String name) {
        return List.of("steps", "days", "sew", "paid", "undo", "tear", "carry", "carried", "latest", "boy").contains(name);
    }

    private static int wild() {
        return random.nextInt(3) == 0 ? random.nextInt() : EXTREMES[random.nextInt(EXTREMES.length)];
    }

    private static int upTo(int most) {
        return random.nextInt(most + 1);
    }

    private static int likely(String name, int i, Model model, int[] told) {
        int coin = upTo(Math.max(0, model.coins() - 1));
        int set = upTo((1 << model.coins()) - 1);
        switch (name + i) {
            case "coin0": case "as1":
                return upTo(6);
            case "of0": case "change0": case "put0": case "when0": case "falls0": case "cell0": case "bears0":
            case "kindFor0": case "back0": case "judge1":
                return coin;
            case "of1":
                return upTo(10);
            case "change1":
                return upTo(6);
            case "change2":
                int[] most = {6, 40, 50, random.nextBoolean() ? 12 : 240, 0, 9, 7};
                return told[1] >= 0 && told[1] <= 6 ? upTo(most[told[1]]) : 1;
            case "put1":
                return random.nextInt(3) != 0 ? upTo(1) : upTo(4);
            case "rule0":
                return upTo(2);
            case "rule1":
                return told[0] == 2 ? upTo(7) : random.nextBoolean() ? upTo(20) : upTo(99);
            case "lie0": case "pence0":
                return upTo(4);
            case "steps0":
                return random.nextInt(4) == 0 ? 1 + upTo(99) : 1 + upTo(6);
            case "now0": case "count0":
                return upTo(7);
            case "ahead0": case "cell1":
                return random.nextBoolean() ? upTo(12) : upTo(100);
            case "ahead1":
                return upTo(5);
            case "latest1":
                return upTo(40);
            case "pay0": case "small0":
                return upTo(60);
            case "paid0": case "fits0": case "size0": case "began0": case "boy0":
                return random.nextBoolean() ? set & model.pocket() : random.nextBoolean() ? model.goneBy(3) : set;
            case "fits1": case "size1": case "boy1":
                return random.nextBoolean() ? 1 + upTo(5) : 1 + upTo(59);
            case "lining0":
                return upTo(60);
            case "days0":
                return 1 + upTo(11);
            case "seed0":
                return random.nextInt();
            case "feed1":
                return 1 + upTo(3);
            case "hold0": case "as0":
                return upTo(9);
            case "hold1":
                return coin - random.nextInt(2);
            case "sheet0": case "write0": case "copy0": case "copy2": case "load0": case "judge0":
                return upTo(1);
            case "sheet1":
                return 8 * upTo(2);
            case "sheet2":
                return upTo(12);
            case "write1": case "copy1": case "copy3":
                return upTo(4);
            case "write2":
                return random.nextBoolean() ? upTo(2) : random.nextBoolean() ? 1 + upTo(40) : random.nextInt();
            case "copy4":
                return upTo(4);
            case "status0":
                return upTo(7) - 1;
            default:
                return random.nextBoolean() ? 1 + upTo(11) : 1 + upTo(99);
        }
    }

    /** Feeds pieces of a text: often a good one, sometimes any. */
    private static int feedText(PocketHole x, Model model, int left) {
        StringBuilder text = new StringBuilder();
        boolean isGood = random.nextInt(3) != 0;
        for (int n = 1 + upTo(4); n > 0; n--) {
            text.append(isGood ? item() : PIECES[random.nextInt(PIECES.length)]);
            text.append(isGood && n > 1 ? ";" : random.nextBoolean() ? " " : "");
        }
        if (isGood && random.nextInt(3) == 0) {
            text.setCharAt(random.nextInt(text.length()), "; a0z9".charAt(upTo(5)));
        }
        int rest = left;
        for (int i = 0; i < text.length() && rest > 0; i += 4, rest--) {
            int n = Math.min(4, text.length() - i);
            int bytes = 0;
            for (int k = 0; k < n; k++) {
                bytes = bytes << 8 | text.charAt(i + k);
            }
            x.feed(bytes, n);
            model.ask("feed", bytes, n);
        }
        return rest;
    }

    private static String item() {
        String kind = PIECES[upTo(6)];
        switch (upTo(5)) {
            case 0:
                return "hole " + upTo(40);
            case 1:
                return "gap " + upTo(50) + " at" + upTo(7);
            case 2:
                return kind + " left";
            case 3:
                return kind + " size" + (1 + upTo(39)) + " pence " + upTo(20);
            case 4:
                return kind + " weight " + (1 + upTo(49));
            default:
                return kind;
        }
    }
}
