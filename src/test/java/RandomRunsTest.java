/** Holds Reifytown against PlainTown over many random towns: every call must be answered alike. */
public final class RandomRunsTest extends BothTowns {
    private RandomRunsTest(long seed) {
        super(seed);
    }

    private void build(int wrongness) {
        int kinds = 1 + upTo(10);
        for (int i = 0; i < kinds; i++) {
            char l = of("cccssiiii");
            boolean p = chance(50);
            char v = l == 'i' && p ? of("+-=") : chance(wrongness) ? of("+-=") : '=';
            char m = p ? of("------vr") : chance(wrongness) ? of("vr") : '-';
            addKind(l, p, v, m);
            if (chance(30)) makeType();
            for (int n = upTo(4); n > 0; n--) addAbove(i, chance(50), wrongness);
        }
        for (int n = 5 + upTo(20); n > 0; n--) makeType();
        for (int n = upTo(4); n > 0; n--) addAbove(upTo(Math.max(1, plain.kinds.size())), chance(50), wrongness);
        int bodies = 4 + upTo(11);
        for (int i = 0; i < bodies; i++) addBody();
        for (int n = 20 + upTo(40); n > 0; n--) {
            int k = upTo(kinds), name = chance(wrongness) ? 6 : upTo(3), b = 2 + upTo(bodies - 2);
            char l = plain.noKind(k) || chance(wrongness) ? of("vonad") : of(plain.kinds.get(k).letter == 'i' ? "add" : "vvoon");
            addMethod(k, name, l, l == 'a' ? -1 : b);
            int o = upTo(kinds), name2 = upTo(3);
            if (chance(40)) tell(k, o, name2, b);
        }
        for (int n = upTo(4); n > 0; n--) {
            int k = upTo(kinds), b = upTo(bodies + 1) - 1;
            setReady(k, b);
        }
        for (int i = 0; i < bodies; i++) writeBody(i, bodies, wrongness);
    }

    private void addAbove(int kind, boolean isParent, int wrongness) {
        if (plain.kinds.isEmpty()) return;
        int o = upTo(plain.kinds.size());
        for (int n = 0; n < 8 && (plain.kinds.get(o).letter == 'c') != isParent; n++) o = upTo(plain.kinds.size());
        int other = o;
        int arg = !plain.kinds.get(other).par || chance(wrongness) ? -1 : chance(70) ? -2 : upTo(plain.types() + (chance(wrongness) ? 1 : 0));
        if (isParent) setParent(kind, other, arg);
        else addInterface(kind, other, arg);
    }

    private void makeType() {
        int k = upTo(Math.max(1, plain.kinds.size())), arg = chance(40) ? -1 : upTo(plain.types() + 1);
        addType(k, arg);
    }

    private int pickType() {
        int n = upTo(12);
        return n == 0 ? -1 : n < 3 ? -2 - upTo(10) : n < 7 && plain.types.size() > 3 ? 2 + upTo(plain.types.size() - 2) : n == 7 ? 0 : upTo(plain.types() + (chance(5) ? 3 : 0));
    }

    /** What each local of the body that is written probably holds, by the letters of returned(), and of which type. */
    private final char[] guess = new char[6];
    private final int[] guessType = new int[6];

    private int pick(String letters) {
        for (int n = 0; n < 12; n++) {
            int l = upTo(6);
            if (letters.indexOf(guess[l]) >= 0) return l;
        }
        return upTo(6);
    }

    private boolean has(String letters) {
        for (char g : guess) {
            if (letters.indexOf(g) >= 0) return true;
        }
        return false;
    }

    /** The op itself, or mostly one that makes what it would need and has not got. */
    private char instead(char op) {
        if (chance(4)) return op;
        if ("EQ".indexOf(op) >= 0 && !has("i")) op = 'G';
        if ("IPM".indexOf(op) >= 0 && !has("d")) op = 'D';
        if (op == 'U' && !has("b")) op = 'B';
        if ("CGD.!".indexOf(op) >= 0 && !has("osb")) op = 'N';
        return op;
    }

    private int pickTypeOf(String letters) {
        for (int n = 0; n < 12; n++) {
            int t = upTo(plain.types.size());
            PlainTown.K k = plain.types.get(t).kind();
            if (k != null && letters.indexOf(k.letter) >= 0) return t;
        }
        return pickType();
    }

    private int pickWay(int type) {
        for (int n = 0; n < 20 && type >= 0 && type < plain.types.size(); n++) {
            int k = upTo(Math.max(1, plain.kinds.size())), name = upTo(3);
            if (!plain.noKind(k) && plain.found(type, k, name) >= 0) return k * 10 + name;
        }
        return upTo(Math.max(1, plain.kinds.size()) + (chance(5) ? 1 : 0)) % 10 * 10 + upTo(3);
    }

    private void writeBody(int body, int bodies, int wrongness) {
        int length = body < 2 ? 12 + upTo(13) : upTo(hasRows ? 2 : 10) == 0 ? 0 : 1 + upTo(chance(30) ? 24 : 10);
        java.util.Arrays.fill(guess, '0');
        guess[1] = 'n';
        if (body > 1) {
            guess[0] = of("oos");
            guessType[0] = pickTypeOf(guess[0] == 'o' ? "c" : "s");
        }
        for (int i = 0; i < length; i++) {
            char op = of(i < 4 && chance(60) ? "NNNdB" : chance(40) ? "CCCCGGEEEIIDDPMQyye!.NBCC" : chance(20) ? "Sspp" : OPS);
            if (op == 'j' && chance(70)) op = 'z';
            if (body < 2 && i < 4) op = i < 2 ? 'N' : of("NdBGD");
            if (hasRows && body < 2 && i > 1) op = of("DDDPPPMMIIIII.!");
            if ("rx".indexOf(op) >= 0 && i < length / 2 && chance(70)) op = 'C';
            writeStep(body, instead(op), length, wrongness);
        }
        if (body < 2 ? chance(60) : chance(30)) {
            int mid = length / 2;
            addRegion(body, 2, mid, 'c', -1, mid + 1);
        }
        for (int n = upTo(5); n > 0; n--) {
            char l = of("ffffcccw");
            int first = upTo(Math.max(1, length)), last = first + upTo(4) + (chance(30) ? upTo(20) : 0);
            int number = l == 'w' ? upTo(bodies) : chance(70) ? -1 : upTo(7);
            int place = chance(85) ? upTo(Math.max(1, length + 1)) : upTo(26);
            addRegion(body, first, last, l, number, place);
        }
    }

    private void writeStep(int body, char op, int length, int wrongness) {
        int a = chance(10) ? upTo(6) : chance(85) ? pick("0n") : 1 + upTo(5), d = upTo(6);
        if (a == 0 && chance(80)) a = 1 + upTo(5);
        int b = upTo(6), c = upTo(6);
        char becomes = '-';
        int becomesType = -1;
        switch (op) {
            case '=': b = upTo(9) - 1; becomes = 'n'; break;
            case ':': becomes = guess[b]; becomesType = guessType[b]; break;
            case '+': case '-': case '<': b = pick("n"); c = pick("n"); becomes = 'n'; break;
            case '?': becomes = 'n'; break;
            case 'j': b = Math.min(24, upTo(length + 2)); break;
            case 'z': b = Math.min(24, upTo(length + 2)); break;
            case 'N':
                b = chance(70) ? pickTypeOf("cs") : pickType();
                if (b >= 0 && b < plain.types.size()) {
                    becomes = b == 0 ? 'n' : plain.value(b) ? 's' : 'o';
                    becomesType = b;
                }
                break;
            case 'd': b = chance(50) ? pickTypeOf("s") : pickType(); becomes = 's'; becomesType = b; break;
            case '.': b = pick("os"); c = upTo(3); becomes = 'n'; break;
            case '!': b = pick("os"); c = upTo(3); break;
            case 'B': b = pick("ns"); becomes = 'b'; becomesType = guess[b] == 'n' ? 0 : guessType[b]; break;
            case 'U': b = pick("b"); c = chance(70) ? guessType[b] : pickType(); becomes = 's'; becomesType = c; break;
            case 'T': c = pickType(); becomes = 'n'; break;
            case 'C': case 'G': case 'D':
                b = pick("osb");
                c = pickWay(guessType[b]);
                becomes = op == 'C' ? 'n' : op == 'G' ? 'i' : 'd';
                break;
            case 'E': b = pick("i"); becomes = 'n'; break;
            case 'Q': a = pick("i"); break;
            case 'S': b = pickType(); c = upTo(2); becomes = 'n'; break;
            case 's': b = pickType(); c = upTo(2); break;
            case 'P': case 'M': b = pick("dd0"); c = pick("dd0"); becomes = 'd'; break;
            case 'I': b = pick("d"); becomes = 'n'; break;
            case 'x': case 'p': a = pick("n"); break;
            default: break;
        }
        if (becomes != '-') {
            guess[a] = becomes;
            guessType[a] = becomesType;
        }
        if (chance(wrongness)) b += upTo(60) - 30;
        if (chance(wrongness)) c += upTo(60) - 30;
        addStep(body, op, a, b, c, d);
    }

    private void ask() {
        for (int n = 0; n < 12 && asked < 510; n++) {
            int t = upTo(plain.types() + 1), u = upTo(plain.types()), k = upTo(10), name = upTo(4);
            both("isBelow " + t + " " + u, () -> town.isBelow(t, u), () -> plain.isBelow(t, u));
            both("found " + t + " " + k + " " + name, () -> town.found(t, k, name), () -> plain.found(t, k, name));
        }
    }

    private void runSome() {
        for (int n = 0; n < 14 && asked < 512 - 60; n++) {
            perform(chance(80) ? upTo(2) : upTo(14), upTo(5) - 1);
        }
    }

    /** Whether the first two bodies are mostly about delegates, and many others have no steps. */
    private boolean hasRows;

    @Override
    void live() {
        hasRows = chance(15);
        build(chance(50) ? 0 : 3);
        ask();
        runSome();
        ask();
    }

    public static void main(String[] args) {
        int from = args.length > 0 ? Integer.parseInt(args[0]) : 0;
        int to = args.length > 1 ? Integer.parseInt(args[1]) : 10000;
        liveAll("RandomRunsTest", from, to, args.length > 0, RandomRunsTest::new);
    }
}
