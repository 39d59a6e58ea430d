import java.util.NoSuchElementException;

/** Holds Reifytown against PlainTown over many random towns: every call must be answered alike. */
public final class RandomRunsTest {
    private static final String OPS = "=:+-<?jzNd.!BUTCGEQySsDPMIxrep";
    private long seed;
    private Reifytown town;
    private PlainTown plain;
    private final StringBuilder told = new StringBuilder();
    private static final int[] ends = new int[128];
    private static final int[] thrown = new int[8];
    private static long finals, pieces, boxes, calls, steps, skipped;

    private interface Answer { Object get(); }

    private RandomRunsTest(long seed) {
        this.seed = seed * 0x9E3779B97F4A7C15L + 12345;
    }

    private int upTo(int n) {
        seed = seed * 6364136223846793005L + 1442695040888963407L;
        return (int) ((seed >>> 33) % n);
    }

    private boolean chance(int percent) {
        return upTo(100) < percent;
    }

    private char of(String letters) {
        return letters.charAt(upTo(letters.length()));
    }

    private static Object answer(Answer a) {
        try {
            return a.get();
        } catch (IndexOutOfBoundsException e) {
            return "throws " + IndexOutOfBoundsException.class;
        } catch (PlainTown.TooBig e) {
            throw e;
        } catch (IllegalArgumentException | UnsupportedOperationException | IllegalStateException
                | NoSuchElementException | ArithmeticException e) {
            return "throws " + e.getClass();
        }
    }

    private Object both(String call, Answer a, Answer b) {
        Object want = answer(b);
        Object got = answer(a);
        told.append(call).append(" -> ").append(want).append('\n');
        if (!want.equals(got)) {
            throw new IllegalStateException(told + "but answered " + got);
        }
        return want;
    }

    private void build(int wrongness) {
        int kinds = 1 + upTo(10);
        for (int i = 0; i < kinds; i++) {
            char l = of("cccssiiii");
            boolean p = chance(50);
            char v = l == 'i' && p ? of("+-=") : chance(wrongness) ? of("+-=") : '=';
            char m = p ? of("------vr") : chance(wrongness) ? of("vr") : '-';
            both("addKind " + l + p + v + m, () -> town.addKind(l, p, v, m), () -> plain.addKind(l, p, v, m));
            if (chance(30)) makeType();
            for (int n = upTo(4); n > 0; n--) addAbove(i, chance(50), wrongness);
        }
        for (int n = 5 + upTo(20); n > 0; n--) makeType();
        for (int n = upTo(4); n > 0; n--) addAbove(upTo(Math.max(1, plain.kinds.size())), chance(50), wrongness);
        int bodies = 4 + upTo(11);
        for (int i = 0; i < bodies; i++) both("addBody", () -> town.addBody(), () -> plain.addBody());
        for (int n = 20 + upTo(40); n > 0; n--) {
            int k = upTo(kinds), name = chance(wrongness) ? 6 : upTo(3), b = 2 + upTo(bodies - 2);
            char l = plain.noKind(k) || chance(wrongness) ? of("vonad") : of(plain.kinds.get(k).letter == 'i' ? "add" : "vvoon");
            int body = l == 'a' ? -1 : b;
            both("addMethod " + k + " " + name + " " + l + " " + body, () -> town.addMethod(k, name, l, body), () -> plain.addMethod(k, name, l, body));
            int o = upTo(kinds), name2 = upTo(3);
            if (chance(40)) both("tell " + k + " " + o + " " + name2 + " " + b, () -> town.tell(k, o, name2, b), () -> plain.tell(k, o, name2, b));
        }
        for (int n = upTo(4); n > 0; n--) {
            int k = upTo(kinds), b = upTo(bodies + 1) - 1;
            both("setReady " + k + " " + b, () -> town.setReady(k, b), () -> plain.setReady(k, b));
        }
        for (int i = 0; i < bodies; i++) writeBody(i, bodies, wrongness);
    }

    private void addAbove(int kind, boolean isParent, int wrongness) {
        if (plain.kinds.isEmpty()) return;
        int o = upTo(plain.kinds.size());
        for (int n = 0; n < 8 && (plain.kinds.get(o).letter == 'c') != isParent; n++) o = upTo(plain.kinds.size());
        int other = o;
        int arg = !plain.kinds.get(other).par || chance(wrongness) ? -1 : chance(70) ? -2 : upTo(town.types() + (chance(wrongness) ? 1 : 0));
        if (isParent) {
            both("setParent " + kind + " " + other + " " + arg, () -> town.setParent(kind, other, arg), () -> plain.setParent(kind, other, arg));
        } else {
            both("addInterface " + kind + " " + other + " " + arg, () -> town.addInterface(kind, other, arg), () -> plain.addInterface(kind, other, arg));
        }
    }

    private void makeType() {
        int k = upTo(Math.max(1, plain.kinds.size())), arg = chance(40) ? -1 : upTo(town.types() + 1);
        both("type " + k + " " + arg, () -> town.type(k, arg), () -> plain.type(k, arg));
    }

    private int pickType() {
        int n = upTo(12);
        return n == 0 ? -1 : n < 3 ? -2 - upTo(10) : n < 7 && plain.types.size() > 3 ? 2 + upTo(plain.types.size() - 2) : n == 7 ? 0 : upTo(town.types() + (chance(5) ? 3 : 0));
    }

    /** What each local of the body that is written probably holds, by the letters of returned(), and of which type. */
    private final char[] guess = new char[6];
    private final int[] guessType = new int[6];

    private int pick(String letters) {
        for (int n = 0; n < 12; n++) {
            int l = upTo(6);
            if (letters.indexOf(guess[l]) >= 0) return l;
        }
        return upTo(6);
    }

    private boolean has(String letters) {
        for (char g : guess) {
            if (letters.indexOf(g) >= 0) return true;
        }
        return false;
    }

    /** The op itself, or mostly one that makes what it would need and has not got. */
    private char instead(char op) {
        if (chance(4)) return op;
        if ("EQ".indexOf(op) >= 0 && !has("i")) op = 'G';
        if ("IPM".indexOf(op) >= 0 && !has("d")) op = 'D';
        if (op == 'U' && !has("b")) op = 'B';
        if ("CGD.!".indexOf(op) >= 0 && !has("osb")) op = 'N';
        return op;
    }

    private int pickTypeOf(String letters) {
        for (int n = 0; n < 12; n++) {
            int t = upTo(plain.types.size());
            PlainTown.K k = plain.types.get(t).kind();
            if (k != null && letters.indexOf(k.letter) >= 0) return t;
        }
        return pickType();
    }

    private int pickWay(int type) {
        for (int n = 0; n < 20 && type >= 0 && type < plain.types.size(); n++) {
            int k = upTo(Math.max(1, plain.kinds.size())), name = upTo(3);
            if (!plain.noKind(k) && plain.found(type, k, name) >= 0) return k * 10 + name;
        }
        return upTo(Math.max(1, plain.kinds.size()) + (chance(5) ? 1 : 0)) % 10 * 10 + upTo(3);
    }

    private void writeBody(int body, int bodies, int wrongness) {
        int length = body < 2 ? 12 + upTo(13) : upTo(hasRows ? 2 : 10) == 0 ? 0 : 1 + upTo(chance(30) ? 24 : 10);
        java.util.Arrays.fill(guess, '0');
        guess[1] = 'n';
        if (body > 1) {
            guess[0] = of("oos");
            guessType[0] = pickTypeOf(guess[0] == 'o' ? "c" : "s");
        }
        for (int i = 0; i < length; i++) {
            char op = of(i < 4 && chance(60) ? "NNNdB" : chance(40) ? "CCCCGGEEEIIDDPMQyye!.NBCC" : chance(20) ? "Sspp" : OPS);
            if (op == 'j' && chance(70)) op = 'z';
            if (body < 2 && i < 4) op = i < 2 ? 'N' : of("NdBGD");
            if (hasRows && body < 2 && i > 1) op = of("DDDPPPMMIIIII.!");
            if ("rx".indexOf(op) >= 0 && i < length / 2 && chance(70)) op = 'C';
            writeStep(body, instead(op), length, wrongness);
        }
        if (body < 2 ? chance(60) : chance(30)) {
            int mid = length / 2;
            both("addRegion " + body + " 2 " + mid + " c -1 " + (mid + 1),
                () -> town.addRegion(body, 2, mid, 'c', -1, mid + 1), () -> plain.addRegion(body, 2, mid, 'c', -1, mid + 1));
        }
        for (int n = upTo(5); n > 0; n--) {
            char l = of("ffffcccw");
            int first = upTo(Math.max(1, length)), last = first + upTo(4) + (chance(30) ? upTo(20) : 0);
            int number = l == 'w' ? upTo(bodies) : chance(70) ? -1 : upTo(7);
            int place = chance(85) ? upTo(Math.max(1, length + 1)) : upTo(26);
            both("addRegion " + body + " " + first + " " + last + " " + l + " " + number + " " + place,
                () -> town.addRegion(body, first, last, l, number, place), () -> plain.addRegion(body, first, last, l, number, place));
        }
    }

    private void writeStep(int body, char op, int length, int wrongness) {
        int a = chance(10) ? upTo(6) : chance(85) ? pick("0n") : 1 + upTo(5), d = upTo(6);
        if (a == 0 && chance(80)) a = 1 + upTo(5);
        int b = upTo(6), c = upTo(6);
        char becomes = '-';
        int becomesType = -1;
        switch (op) {
            case '=': b = upTo(9) - 1; becomes = 'n'; break;
            case ':': becomes = guess[b]; becomesType = guessType[b]; break;
            case '+': case '-': case '<': b = pick("n"); c = pick("n"); becomes = 'n'; break;
            case '?': becomes = 'n'; break;
            case 'j': b = Math.min(24, upTo(length + 2)); break;
            case 'z': b = Math.min(24, upTo(length + 2)); break;
            case 'N':
                b = chance(70) ? pickTypeOf("cs") : pickType();
                if (b >= 0 && b < plain.types.size()) {
                    becomes = b == 0 ? 'n' : plain.value(b) ? 's' : 'o';
                    becomesType = b;
                }
                break;
            case 'd': b = chance(50) ? pickTypeOf("s") : pickType(); becomes = 's'; becomesType = b; break;
            case '.': b = pick("os"); c = upTo(3); becomes = 'n'; break;
            case '!': b = pick("os"); c = upTo(3); break;
            case 'B': b = pick("ns"); becomes = 'b'; becomesType = guess[b] == 'n' ? 0 : guessType[b]; break;
            case 'U': b = pick("b"); c = chance(70) ? guessType[b] : pickType(); becomes = 's'; becomesType = c; break;
            case 'T': c = pickType(); becomes = 'n'; break;
            case 'C': case 'G': case 'D':
                b = pick("osb");
                c = pickWay(guessType[b]);
                becomes = op == 'C' ? 'n' : op == 'G' ? 'i' : 'd';
                break;
            case 'E': b = pick("i"); becomes = 'n'; break;
            case 'Q': a = pick("i"); break;
            case 'S': b = pickType(); c = upTo(2); becomes = 'n'; break;
            case 's': b = pickType(); c = upTo(2); break;
            case 'P': case 'M': b = pick("dd0"); c = pick("dd0"); becomes = 'd'; break;
            case 'I': b = pick("d"); becomes = 'n'; break;
            case 'x': case 'p': a = pick("n"); break;
            default: break;
        }
        if (becomes != '-') {
            guess[a] = becomes;
            guessType[a] = becomesType;
        }
        if (chance(wrongness)) b += upTo(60) - 30;
        if (chance(wrongness)) c += upTo(60) - 30;
        int aa = a, bb = b, cc = c;
        both("addStep " + body + " " + op + " " + a + " " + b + " " + c + " " + d,
            () -> town.addStep(body, op, aa, bb, cc, d), () -> plain.addStep(body, op, aa, bb, cc, d));
    }

    private void ask() {
        for (int n = 0; n < 25; n++) {
            int t = upTo(town.types() + 1), u = upTo(town.types()), k = upTo(10), name = upTo(4);
            both("isBelow " + t + " " + u, () -> town.isBelow(t, u), () -> plain.isBelow(t, u));
            both("found " + t + " " + k + " " + name, () -> town.found(t, k, name), () -> plain.found(t, k, name));
        }
    }

    private void runSome() {
        for (int n = 0; n < 14; n++) {
            int b = chance(80) ? upTo(2) : upTo(14), arg = upTo(5) - 1;
            PlainTown.copies = 0;
            if (chance(60)) {
                both("run " + b + " " + arg, () -> town.run(b, arg), () -> plain.run(b, arg));
            } else if (chance(50)) {
                both("runWritten " + b + " " + arg, () -> town.runWritten(b, arg), () -> plain.runWritten(b, arg));
            } else {
                both("isSame " + b + " " + arg, () -> town.isSame(b, arg), () -> plain.isSame(b, arg));
            }
            look();
        }
    }

    private void look() {
        both("returned", () -> town.returned(), () -> plain.returned());
        both("number", () -> town.number(), () -> plain.number());
        both("unhandled", () -> town.unhandled(), () -> plain.unhandled());
        both("outputs", () -> town.outputs(), () -> plain.outputs());
        for (int i = 0; i < Math.min(20, plain.outputs()); i++) {
            int at = i;
            both("output " + i, () -> town.output(at), () -> plain.output(at));
        }
        both("steps", () -> town.steps(), () -> plain.steps());
        both("pieces", () -> town.pieces(), () -> plain.pieces());
        both("calls", () -> town.calls(), () -> plain.calls());
        both("boxes", () -> town.boxes(), () -> plain.boxes());
        both("finals", () -> town.finals(), () -> plain.finals());
        both("types", () -> town.types(), () -> plain.types());
        both("allSteps", () -> town.allSteps(), () -> plain.allSteps());
        both("pieceShare", () -> town.pieceShare(), () -> plain.pieceShare());
        both("meanSteps", () -> town.meanSteps(), () -> plain.meanSteps());
        for (int i = 0; i < 6; i++) {
            int t = upTo(62), s = upTo(3);
            both("staticOf " + t + " " + s, () -> town.staticOf(t, s), () -> plain.staticOf(t, s));
        }
        count();
    }

    private void count() {
        if (plain.last == null) return;
        ends[plain.last.end]++;
        if (plain.last.end == 'u') thrown[plain.last.unhandled >= 0 && plain.last.unhandled < 7 ? plain.last.unhandled : 7]++;
        finals += plain.last.finals; pieces += plain.last.pieces.size(); boxes += plain.last.boxes;
        calls += plain.last.calls; steps += plain.last.steps;
    }

    /** Whether the first two bodies are mostly about delegates, and many others have no steps. */
    private boolean hasRows;

    private void live() {
        hasRows = chance(15);
        town = new Reifytown();
        plain = new PlainTown();
        int wrongness = chance(50) ? 0 : 3;
        try {
            build(wrongness);
            ask();
            runSome();
            ask();
        } catch (PlainTown.TooBig e) {
            skipped++;
        }
    }

    public static void main(String[] args) {
        int from = args.length > 0 ? Integer.parseInt(args[0]) : 0;
        int to = args.length > 1 ? Integer.parseInt(args[1]) : 10000;
        for (int i = from; i < to; i++) {
            try {
                new RandomRunsTest(i).live();
            } catch (IllegalStateException e) {
                System.out.println("town " + i + ":\n" + e.getMessage());
                System.exit(1);
            }
        }
        System.out.println("RandomRunsTest: " + (to - from) + " passed, 0 failed");
        if (args.length > 0) {
            System.out.println("r " + ends['r'] + " u " + ends['u'] + " l " + ends['l'] + " thrown "
                + java.util.Arrays.toString(thrown) + " finals " + finals + " pieces " + pieces + " boxes " + boxes
                + " calls " + calls + " steps " + steps + " skipped " + skipped);
            for (char op : OPS.toCharArray()) System.out.print(op + " " + PlainTown.done[op] + "/" + PlainTown.tried[op] + "  ");
            System.out.println();
        }
    }
}
