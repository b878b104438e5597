import java.util.ArrayList;
import java.util.HashSet;
import java.util.List;
import java.util.Set;
import java.util.regex.Matcher;
import java.util.regex.Pattern;

/**
 * The document once more, as slow and as near to its words as can be, with all the library: it looks
 * ahead step by step to the end, tries all sets, and copies all that it tries something with.
 */
final class Model {
    private static final String[] KINDS = {"coin", "wrapped", "heavy", "knotted", "key", "flat", "ticket"};
    private static final int[] ABOVE = {-1, 0, 0, 1, 2, 0, 5};

    /** A coin: KIND, SIZE, WEIGHT, PENCE, PLACE, NEAR, CELL, STEP of its fall. */
    static final class World {
        int hole = 10;
        int gap = 0;
        int at = 7;
        int step = 0;
        int z = 1;
        List<int[]> coins = new ArrayList<>();
        int[] spots = {-1, -1, -1, -1, -1, -1, -1, -1, -1, -1};

        World copied() {
            World other = new World();
            other.hole = hole;
            other.gap = gap;
            other.at = at;
            other.step = step;
            other.z = z;
            for (int[] coin : coins) {
                other.coins.add(coin.clone());
            }
            other.spots = spots.clone();
            return other;
        }
    }

    private World world = new World();
    private World image = null;
    private String tape = "";
    private final int[][] sheets = new int[4][];
    private final int[] bitsOf = new int[4];
    private final int[] told = new int[7];

    private int finding(String name) {
        int which = List.of("BEYOND", "FULL", "KIND", "NONE", "STATE", "MISSING", "SIZE").indexOf(name);
        told[which]++;
        return -1000001 - which;
    }

    // Rules 1 and 2.

    private static int thick(int[] coin) {
        switch (coin[0]) {
            case 1: return 2 * coin[1];
            case 3: return 2 * coin[1] + 3;
            case 5: case 6: return Math.max(1, coin[1] / 2);
            default: return coin[1];
        }
    }

    private static int goes(int[] coin) {
        return new int[] {1, 1, 2, 1, 2, 1, 0}[coin[0]];
    }

    private static int wears(int[] coin, int hole) {
        int plain = 2 * thick(coin) >= hole ? 1 : 0;
        return new int[] {plain, 0, plain + 1, 0, plain + 2, plain, plain}[coin[0]];
    }

    private static World stepped(World from) {
        World to = from.copied();
        for (int[] coin : to.coins) {
            if (coin[4] != 0) {
                continue;
            }
            coin[5] = Math.min(9, coin[5] + goes(coin));
            if (coin[5] >= 3 && thick(coin) <= to.hole) {
                coin[4] = 1;
                coin[6] = 0;
                to.hole = Math.min(99, to.hole + wears(coin, to.hole));
            } else if (coin[5] >= 3 && coin[0] == 4 && from.step % 4 == 0) {
                to.hole = Math.min(99, to.hole + 1);
            }
        }
        for (int c = 0; c < to.coins.size(); c++) {
            int[] coin = to.coins.get(c);
            if (from.coins.get(c)[4] != 1) {
                continue;
            }
            boolean another = false;
            for (int[] other : to.coins) {
                another |= other != coin && other[4] == 1 && other[6] == coin[6];
            }
            if (coin[6] == to.at && thick(coin) <= to.gap && another) {
                coin[4] = 2;
                coin[7] = from.step;
            } else {
                coin[6] = Math.min(7, coin[6] + goes(coin));
            }
        }
        to.step++;
        return to;
    }

    private static World ahead(World from, int n) {
        World to = from;
        for (int i = 0; i < n; i++) {
            to = stepped(to);
        }
        return to;
    }

    private static int lie(World w, int place) {
        int set = 0;
        for (int c = 0; c < w.coins.size(); c++) {
            set |= w.coins.get(c)[4] == place ? 1 << c : 0;
        }
        return set;
    }

    private static int sum(World w, int set, int what) {
        int sum = 0;
        for (int c = 0; c < w.coins.size(); c++) {
            sum += (set & 1 << c) != 0 ? w.coins.get(c)[what] : 0;
        }
        return sum;
    }

    private static int clinks(World w) {
        int pairs = 0;
        for (int[] a : w.coins) {
            for (int[] b : w.coins) {
                pairs += a != b && a[4] == 1 && b[4] == 1 && a[6] == b[6] ? 1 : 0;
            }
        }
        return pairs / 2;
    }

    private static int gone(World from, int n) {
        return lie(from, 0) & ~lie(ahead(from, n), 0);
    }

    private static int lostPence(World from, int n) {
        World to = ahead(from, n);
        return sum(to, lie(to, 2) & ~lie(from, 2), 3);
    }

    private static void put(World w, int coin, int place) {
        int[] row = w.coins.get(coin);
        row[4] = place;
        row[5] = 0;
        row[6] = 0;
        row[7] = -1;
    }

    private boolean isCoin(int coin) {
        return coin >= 0 && coin < world.coins.size();
    }

    private boolean isSet(int set) {
        return set >= 0 && set < 1 << world.coins.size();
    }

    private static boolean in(int v, int least, int most) {
        return least <= v && v <= most;
    }

    private boolean tooFar(int n) {
        return world.step + n > 9999;
    }

    // What the test asks for, to choose likely calls; these count no findings.

    int coins() {
        return world.coins.size();
    }

    int pocket() {
        return lie(world, 0);
    }

    int goneBy(int n) {
        return gone(world, n);
    }

    // The acts.

    int ask(String name, int... a) {
        switch (name) {
            case "coin": case "of": case "change": case "put": case "rule": case "sew": case "lie": case "pence":
                return coat(name, a);
            case "steps": case "now": case "ahead": case "when": case "falls": case "first": case "cell":
                return steps(name, a);
            case "bears": case "latest": case "carry": case "carried": case "kindFor": case "worst": case "hem":
                return advice(name, a);
            case "pay": case "small": case "paid": case "sums":
                return paying(name, a);
            case "fits": case "size": case "began": case "boy": case "lining": case "back": case "richest":
                return lacking(name, a);
            case "days": case "seed": case "feed": case "wipe": case "text":
                return drawsAndTexts(name, a);
            case "hold": case "as": case "sheet": case "write": case "copy": case "load": case "judge":
                return sheets(name, a);
            default:
                return images(name, a);
        }
    }

    private int coat(String name, int[] a) {
        int was;
        switch (name) {
            case "coin":
                if (!in(a[0], 0, 6)) return finding("BEYOND");
                if (world.coins.size() == 10) return finding("FULL");
                world.coins.add(new int[] {a[0], 8, 5, 6, 0, 0, 0, -1});
                return world.coins.size() - 1;
            case "of":
                if (!isCoin(a[0]) || !in(a[1], 0, 10)) return finding("BEYOND");
                int[] coin = world.coins.get(a[0]);
                return a[1] < 8 ? coin[a[1]] : a[1] == 8 ? thick(coin) : a[1] == 9 ? goes(coin) : wears(coin, world.hole);
            case "change":
                int[][] range = {{0, 6}, {1, 40}, {1, 50}, {0, 240}, {1, 0}, {0, 9}, {0, 7}};
                if (!isCoin(a[0]) || !in(a[1], 0, 6) || !in(a[2], range[a[1]][0], range[a[1]][1])) return finding("BEYOND");
                was = world.coins.get(a[0])[a[1]];
                world.coins.get(a[0])[a[1]] = a[2];
                return was;
            case "put":
                if (!isCoin(a[0]) || !in(a[1], 0, 4)) return finding("BEYOND");
                was = world.coins.get(a[0])[4];
                put(world, a[0], a[1]);
                return was;
            case "rule":
                if (!in(a[0], 0, 2) || !in(a[1], 0, new int[] {99, 99, 7}[a[0]])) return finding("BEYOND");
                was = new int[] {world.hole, world.gap, world.at}[a[0]];
                if (a[0] == 0) world.hole = a[1];
                if (a[0] == 1) world.gap = a[1];
                if (a[0] == 2) world.at = a[1];
                return was;
            case "sew":
                was = world.hole;
                world.hole = 0;
                return was;
            case "lie":
                return in(a[0], 0, 4) ? lie(world, a[0]) : finding("BEYOND");
            default:
                return in(a[0], 0, 4) ? sum(world, lie(world, a[0]), 3) : finding("BEYOND");
        }
    }

    private int steps(String name, int[] a) {
        switch (name) {
            case "steps":
                if (!in(a[0], 1, 100)) return finding("BEYOND");
                if (tooFar(a[0])) return finding("STATE");
                int before = Integer.bitCount(lie(world, 2));
                world = ahead(world, a[0]);
                return Integer.bitCount(lie(world, 2)) - before;
            case "now":
                if (!in(a[0], 0, 6)) return finding("BEYOND");
                return new int[] {world.step, world.hole, world.gap, world.at, clinks(world),
                    sum(world, lie(world, 0), 2) + sum(world, lie(world, 1), 2), sum(world, lie(world, 3), 2)}[a[0]];
            case "ahead":
                if (!in(a[0], 0, 100) || !in(a[1], 0, 5)) return finding("BEYOND");
                if (tooFar(a[0])) return finding("STATE");
                World to = ahead(world, a[0]);
                return new int[] {gone(world, a[0]), lie(to, 2) & ~lie(world, 2), to.hole, clinks(to),
                    sum(to, lie(to, 2), 3), lie(to, 1)}[a[1]];
            case "when":
                if (!isCoin(a[0])) return finding("BEYOND");
                if (tooFar(100)) return finding("STATE");
                int when = when(world, a[0]);
                return when == 101 ? finding("NONE") : when;
            case "falls":
                if (!isCoin(a[0])) return finding("BEYOND");
                if (tooFar(100)) return finding("STATE");
                World w = world;
                for (int n = 0; n <= 100; n++, w = stepped(w)) {
                    if (w.coins.get(a[0])[4] == 2) return n;
                }
                return finding("NONE");
            case "first":
                if (tooFar(100)) return finding("STATE");
                int best = -1;
                for (int c = 0; c < world.coins.size(); c++) {
                    int then = world.coins.get(c)[4] == 0 ? when(world, c) : 101;
                    if (then < 101 && (best < 0 || then < when(world, best))) best = c;
                }
                return best < 0 ? finding("NONE") : best;
            default:
                if (!isCoin(a[0]) || !in(a[1], 0, 100)) return finding("BEYOND");
                if (tooFar(a[1])) return finding("STATE");
                int[] coin = ahead(world, a[1]).coins.get(a[0]);
                return coin[4] == 1 ? coin[6] : finding("NONE");
        }
    }

    private static int when(World from, int coin) {
        World w = from;
        for (int n = 0; n <= 100; n++, w = stepped(w)) {
            if (w.coins.get(coin)[4] != 0) return n;
        }
        return 101;
    }

    private int advice(String name, int[] a) {
        boolean ofCoin = name.equals("bears") || name.equals("kindFor");
        int n = name.equals("kindFor") ? 100 : a[ofCoin ? 1 : 0];
        if (ofCoin && !isCoin(a[0]) || !in(n, 1, 100)) return finding("BEYOND");
        if (name.equals("latest") && !in(a[1], 0, 9999)) return finding("BEYOND");
        if (ofCoin && world.coins.get(a[0])[4] != 0 || tooFar(n)) return finding("STATE");
        int best = -1;
        int bestMeasure = Integer.MIN_VALUE;
        switch (name) {
            case "bears":
                for (int hole = 0; hole <= 99; hole++) {
                    World w = world.copied();
                    w.hole = hole;
                    if (ahead(w, n).coins.get(a[0])[4] == 0) best = hole;
                }
                return best < 0 ? finding("NONE") : best;
            case "latest":
                for (int k = 0; k <= n; k++) {
                    World w = ahead(world, k).copied();
                    w.hole = 0;
                    w = ahead(w, n - k);
                    if (sum(w, lie(w, 2) & ~lie(world, 2), 3) <= a[1]) best = k;
                }
                return best < 0 ? finding("NONE") : best;
            case "carry": case "carried":
                for (int set = 0; set < 1 << world.coins.size(); set++) {
                    if (sum(world, set, 3) > bestMeasure && carries(set, n)) {
                        best = set;
                        bestMeasure = sum(world, set, 3);
                    }
                }
                return name.equals("carry") ? best : bestMeasure;
            case "kindFor":
                for (int kind = 0; kind < 7; kind++) {
                    World w = world.copied();
                    w.coins.get(a[0])[0] = kind;
                    if (when(w, a[0]) > bestMeasure) {
                        best = kind;
                        bestMeasure = when(w, a[0]);
                    }
                }
                return best;
            case "worst":
                for (int c = 0; c < world.coins.size(); c++) {
                    if (world.coins.get(c)[4] != 0) continue;
                    World w = world.copied();
                    w.coins.get(c)[4] = 3;
                    if (-lostPence(w, n) > bestMeasure) {
                        best = c;
                        bestMeasure = -lostPence(w, n);
                    }
                }
                return best < 0 ? finding("NONE") : best;
            default:
                for (int at = 0; at <= 7; at++) {
                    World w = world.copied();
                    w.at = at;
                    if (-lostPence(w, n) > bestMeasure) {
                        best = at;
                        bestMeasure = -lostPence(w, n);
                    }
                }
                return best;
        }
    }

    private boolean carries(int set, int n) {
        int able = lie(world, 0) | lie(world, 3);
        if ((set & ~able) != 0) return false;
        World w = world.copied();
        for (int c = 0; c < w.coins.size(); c++) {
            if ((able & 1 << c) != 0) put(w, c, (set & 1 << c) != 0 ? 0 : 3);
        }
        return gone(w, n) == 0;
    }

    private int paying(String name, int[] a) {
        int pocket = lie(world, 0);
        if (name.equals("paid")) {
            if (!isSet(a[0])) return finding("BEYOND");
            if ((a[0] & ~pocket) != 0) return finding("STATE");
            for (int c = 0; c < world.coins.size(); c++) {
                if ((a[0] & 1 << c) != 0) put(world, c, 4);
            }
            return sum(world, a[0], 3);
        }
        if (!name.equals("sums") && !in(a[0], 0, 9999)) return finding("BEYOND");
        Set<Integer> sums = new HashSet<>();
        int best = -1;
        int bestMeasure = Integer.MIN_VALUE;
        for (int set = 0; set < 1 << world.coins.size(); set++) {
            if ((set & ~pocket) != 0) continue;
            sums.add(sum(world, set, 3));
            int measure = 0;
            for (int c = 0; c < world.coins.size(); c++) {
                boolean thin = thick(world.coins.get(c)) <= world.hole;
                measure += (set & 1 << c) == 0 ? 0 : name.equals("pay") ? -1 : thin ? 1 : 0;
            }
            if (!name.equals("sums") && sum(world, set, 3) == a[0] && measure > bestMeasure) {
                best = set;
                bestMeasure = measure;
            }
        }
        return name.equals("sums") ? sums.size() : best < 0 ? finding("NONE") : best;
    }

    private List<Integer> holes(int set, int n) {
        List<Integer> holes = new ArrayList<>();
        for (int hole = 0; hole <= 99; hole++) {
            World w = world.copied();
            w.hole = hole;
            if (gone(w, n) == set) holes.add(hole);
        }
        return holes;
    }

    private int lacking(String name, int[] a) {
        switch (name) {
            case "fits": case "size": case "boy":
                if (!isSet(a[0]) || !in(a[1], 1, 60)) return finding("BEYOND");
                if (tooFar(a[1])) return finding("STATE");
                List<Integer> holes = holes(a[0], a[1]);
                if (name.equals("fits")) return holes.size();
                if (name.equals("size")) return holes.isEmpty() ? finding("NONE") : holes.get(0);
                if (!holes.isEmpty()) return 1;
                for (int c = 0; c < world.coins.size(); c++) {
                    if (!holes(a[0] ^ 1 << c, a[1]).isEmpty()) return 2;
                }
                return 0;
            case "began":
                if (!isSet(a[0])) return finding("BEYOND");
                if (tooFar(30)) return finding("STATE");
                int began = 0;
                for (int n = 1; n <= 30; n++) {
                    if (gone(world, n) == a[0]) began |= 1 << n;
                }
                return began;
            case "lining":
                if (!in(a[0], 0, 500)) return finding("BEYOND");
                int many = 0;
                int able = lie(world, 0) | lie(world, 1) | lie(world, 3);
                for (int set = 0; set < 1 << world.coins.size(); set++) {
                    if ((set & ~able) == 0 && sum(world, set, 2) == a[0]) many++;
                }
                return many;
            case "back":
                if (!isCoin(a[0]) || !in(a[1], 1, 100)) return finding("BEYOND");
                if (world.coins.get(a[0])[7] < 0) return finding("STATE");
                return wayCell(a[0], a[1]);
            default:
                if (!in(a[0], 1, 100)) return finding("BEYOND");
                int best = -1;
                int most = -1;
                for (int w = 0; w <= 29; w++) {
                    int pence = -1;
                    for (int c = 0; c < world.coins.size(); c++) {
                        if (world.coins.get(c)[7] >= 0 && wayCell(c, a[0]) == w) {
                            pence = Math.max(0, pence) + world.coins.get(c)[3];
                        }
                    }
                    if (pence > most) {
                        best = w;
                        most = pence;
                    }
                }
                return best < 0 ? finding("NONE") : best;
        }
    }

    /** The latest m steps are step - m to step - 1. */
    private int wayCell(int coin, int m) {
        int w = 0;
        while (world.coins.get(coin)[7] < world.step - m * (w + 1)) {
            w++;
        }
        return w;
    }

    private int draw() {
        world.z = world.z * 1103515245 + 12345;
        return world.z >>> 8;
    }

    private int drawsAndTexts(String name, int[] a) {
        switch (name) {
            case "days":
                if (!in(a[0], 1, 12)) return finding("BEYOND");
                if (tooFar(7 * a[0]) || world.coins.isEmpty()) return finding("STATE");
                for (int day = 0; day < a[0]; day++) {
                    int coin = draw() % world.coins.size();
                    int place = new int[] {0, 3}[draw() % 2];
                    if (Set.of(0, 3).contains(world.coins.get(coin)[4])) put(world, coin, place);
                    world = ahead(world, draw() % 8);
                }
                return sum(world, lie(world, 2), 3);
            case "seed":
                int was = world.z;
                world.z = a[0];
                return was;
            case "feed":
                if (!in(a[1], 1, 4)) return finding("BEYOND");
                if (tape.length() + a[1] > 120) return finding("FULL");
                String bytes = "" + (char) (a[0] >> 24 & 255) + (char) (a[0] >> 16 & 255) + (char) (a[0] >> 8 & 255) + (char) (a[0] & 255);
                tape += bytes.substring(4 - a[1]);
                return tape.length();
            case "wipe":
                int had = tape.length();
                tape = "";
                return had;
            default:
                int answer = text();
                tape = "";
                return answer;
        }
    }

    // Texts: the tokens as strings, and where they begin; the last one is empty.

    private final List<String> tokens = new ArrayList<>();
    private final List<Integer> places = new ArrayList<>();
    private int next;

    private int text() {
        tokens.clear();
        places.clear();
        next = 0;
        Matcher m = Pattern.compile("[a-z]+|[0-9]+|[^ ]", Pattern.DOTALL).matcher(tape);
        while (m.find()) {
            tokens.add(m.group());
            places.add(m.start());
        }
        tokens.add("");
        places.add(tape.length());
        World to = world.copied();
        int items = 0;
        do {
            if (!item(to)) return -1 - places.get(next);
            items++;
        } while (takes(";"));
        if (!tokens.get(next).isEmpty()) return -1 - places.get(next);
        world = to;
        return items;
    }

    private boolean takes(String token) {
        boolean isSo = tokens.get(next).equals(token);
        next += isSo ? 1 : 0;
        return isSo;
    }

    private int number(int least, int most) {
        String token = tokens.get(next);
        if (!token.matches("0*[0-9]{1,3}")) return -1;
        int v = Integer.parseInt(token.replaceFirst("^0+(?=.)", ""));
        if (!in(v, least, most)) return -1;
        next++;
        return v;
    }

    private boolean item(World to) {
        if (takes("hole")) {
            int v = number(0, 99);
            if (v >= 0) to.hole = v;
            return v >= 0;
        }
        if (takes("gap")) {
            int v = number(0, 99);
            if (v < 0 || !takes("at")) return false;
            int at = number(0, 7);
            if (at >= 0) {
                to.gap = v;
                to.at = at;
            }
            return at >= 0;
        }
        int kind = List.of(KINDS).indexOf(tokens.get(next));
        if (kind < 0 || to.coins.size() == 10) return false;
        next++;
        int[] coin = {kind, 8, 5, 6, 0, 0, 0, -1};
        to.coins.add(coin);
        int[][] range = {{}, {1, 40}, {1, 50}, {0, 240}};
        String[] parts = {"", "size", "weight", "pence"};
        for (int what = 1; what <= 3; what++) {
            if (takes(parts[what])) {
                coin[what] = number(range[what][0], range[what][1]);
                if (coin[what] < 0) return false;
            }
        }
        if (takes("left")) coin[4] = 3;
        return true;
    }

    private int sheets(String name, int[] a) {
        switch (name) {
            case "hold":
                if (!in(a[0], 0, 9) || a[1] != -1 && !isCoin(a[1])) return finding("BEYOND");
                world.spots[a[0]] = a[1];
                return 1;
            case "as":
                if (!in(a[0], 0, 9) || !in(a[1], 0, 6)) return finding("BEYOND");
                if (world.spots[a[0]] < 0) return finding("MISSING");
                for (int kind = world.coins.get(world.spots[a[0]])[0]; kind >= 0; kind = ABOVE[kind]) {
                    if (kind == a[1]) return world.spots[a[0]];
                }
                return finding("KIND");
            case "sheet":
                if (!in(a[0], 0, 3) || !Set.of(0, 8, 16, 32).contains(a[1])) return finding("BEYOND");
                if (a[2] < 0) return finding("SIZE");
                if (a[2] > 40) return finding("BEYOND");
                sheets[a[0]] = a[1] == 0 ? null : new int[a[2]];
                bitsOf[a[0]] = a[1];
                return a[1] == 0 ? 0 : a[2];
            case "write":
                if (!in(a[0], 0, 3)) return finding("BEYOND");
                if (sheets[a[0]] == null) return finding("MISSING");
                if (!in(a[1], 0, sheets[a[0]].length - 1)) return finding("BEYOND");
                int lost = 32 - bitsOf[a[0]];
                sheets[a[0]][a[1]] = a[2] << lost >> lost;
                return 1;
            case "copy":
                if (!in(a[0], 0, 3) || !in(a[2], 0, 3)) return finding("BEYOND");
                if (sheets[a[0]] == null || sheets[a[2]] == null) return finding("MISSING");
                if (bitsOf[a[0]] != bitsOf[a[2]]) return finding("KIND");
                if (a[1] < 0 || a[3] < 0 || a[4] < 0) return finding("BEYOND");
                if ((long) a[1] + a[4] > sheets[a[0]].length || (long) a[3] + a[4] > sheets[a[2]].length) return finding("BEYOND");
                int[] were = sheets[a[0]].clone();
                for (int i = 0; i < a[4]; i++) {
                    sheets[a[2]][a[3] + i] = were[a[1] + i];
                }
                return a[4];
            case "load":
                if (!in(a[0], 0, 3)) return finding("BEYOND");
                if (sheets[a[0]] == null) return finding("MISSING");
                int came = 0;
                for (int v : sheets[a[0]]) {
                    if (!in(v, 1, 40) || !isCoin(came)) break;
                    world.coins.get(came++)[1] = v;
                }
                return came;
            default:
                if (!in(a[0], 0, 3)) return finding("BEYOND");
                if (sheets[a[0]] == null) return finding("MISSING");
                if (!isCoin(a[1])) return finding("BEYOND");
                if (tooFar(sheets[a[0]].length)) return finding("STATE");
                for (int i = 0; i < sheets[a[0]].length; i++) {
                    if (ahead(world, i + 1).coins.get(a[1])[4] != sheets[a[0]][i]) return i + 1;
                }
                return 0;
        }
    }

    private int images(String name, int[] a) {
        switch (name) {
            case "image":
                image = world.copied();
                return 1;
            case "undo":
                if (image == null) return finding("NONE");
                world = image.copied();
                return world.step;
            case "tear":
                boolean was = image != null;
                image = null;
                return was ? 1 : 0;
            case "count":
                if (!in(a[0], 0, 7)) return finding("BEYOND");
                int held = 0;
                for (int coin : world.spots) {
                    held += coin >= 0 ? 1 : 0;
                }
                return new int[] {world.step, world.coins.size(), world.hole, sum(world, -1, 3), clinks(world),
                    tape.length(), world.z, held}[a[0]];
            case "status":
                if (!in(a[0], -1, 6)) return finding("BEYOND");
                int all = 0;
                for (int f = 0; f < 7; f++) {
                    all += a[0] == -1 || a[0] == f ? told[f] : 0;
                }
                return all;
            default:
                throw new IllegalArgumentException(name);
        }
    }
}
