/**
 * Holds Reifytown against PlainTown over towns whose code mostly does what it is for: each local has its use, so that
 * few steps throw by mistake, and calls, iterators, handlers and what is done at last lie deep within one another.
 */
public final class RandomCodeTest extends BothTowns {
    private static final int BODIES = 14;
    private static final int RUNS = 4;
    private static final int NAMES = 3;
    // The kinds: an interface, a class with a parameter, one below it, a structure with a parameter, one without.
    private static final int KINDS = 5;
    private static final int TYPES = 7;
    private int length;
    private int body;

    private RandomCodeTest(long seed) {
        super(seed);
    }

    @Override
    void live() {
        tellKinds();
        for (int i = 0; i < BODIES; i++) addBody();
        tellMethods();
        for (body = 0; body < BODIES; body++) {
            length = body < RUNS ? 12 + upTo(12) : upTo(8) == 0 ? upTo(3) : 5 + upTo(12);
            writeBody();
            tellRegions();
        }
        for (int n = 0; n < 20 && asked < 512 - 50; n++) perform(chance(85) ? upTo(RUNS) : upTo(BODIES), upTo(6) - 1);
    }

    private void tellKinds() {
        addKind('i', false, '=', '-');
        addKind('c', true, '=', '-');
        addKind('c', false, '=', '-');
        addKind('s', true, '=', '-');
        addKind('s', false, '=', '-');
        setParent(2, 1, 0);
        addInterface(1, 0, -1);
        addInterface(3, 0, -1);
        if (chance(80)) addInterface(4, 0, -1);
        if (chance(50)) addInterface(2, 0, -1);
        addType(1, 0);
        addType(2, -1);
        addType(3, 0);
        addType(4, -1);
        addType(1, 1);
        setReady(1, chance(50) ? -1 : method());
        setReady(4, chance(50) ? -1 : method());
    }

    private int method() {
        return RUNS + upTo(BODIES - RUNS);
    }

    private void tellMethods() {
        for (int name = 0; name < NAMES; name++) {
            addMethod(0, name, 'd', method());
            addMethod(1, name, chance(80) ? 'v' : 'n', method());
            if (chance(60)) addMethod(2, name, of("ovn"), method());
            if (chance(80)) addMethod(3, name, 'v', method());
            addMethod(4, name, 'v', method());
            if (chance(20)) tell(1 + upTo(3), 0, name, method());
        }
    }

    // ---- steps: the locals 0 and 3 hold what has methods, 1, 2 and 5 numbers, 4 an iterator or a delegate

    private void writeBody() {
        int type = type();
        boolean isRun = body < RUNS;
        boolean hasIterator = chance(50);
        int begun = 0;
        if (isRun || chance(15)) begun += write('N', 0, type(), 0, 0);
        if (isRun || chance(80)) begun += write('N', 3, type, 0, 0);
        if (chance(90)) begun += write('=', 2, upTo(4), 0, 0);
        if (chance(60)) begun += write('=', 5, upTo(3), 0, 0);
        if (isRun || chance(75)) begun += makeRowOrIterator(hasIterator);
        if (body < RUNS ? chance(80) : chance(40)) {
            // Ahead of the others, so that what is handled here leaves none of them.
            addRegion(body, begun, length / 2, chance(50) ? 'c' : 'f', -1, length / 2 + 1);
        }
        while (begun < length) {
            begun += writeStep(hasIterator);
        }
        if (chance(60)) write(chance(50) ? 'r' : 'e', 1, 0, 0, 0);
    }

    private int write(char op, int a, int b, int c, int d) {
        addStep(body, op, a, b, c, d);
        return 1;
    }

    private int type() {
        return 2 + upTo(TYPES - 2);
    }

    private int number() {
        int n = upTo(5);
        return n < 2 ? 1 : n < 4 ? 2 : 5;
    }

    private int thing() {
        return chance(50) ? 0 : 3;
    }

    /** Mostly through the interface that all kinds have, or else all but one. */
    private int way() {
        int n = upTo(20);
        return 10 * (n < 16 ? 0 : n < 18 ? 1 : n < 19 ? 2 : 3) + upTo(NAMES);
    }

    private int makeRowOrIterator(boolean hasIterator) {
        return write(hasIterator ? 'G' : 'D', 4, thing(), way(), number());
    }

    private int writeStep(boolean hasIterator) {
        int n = upTo(100);
        if (n < 10) return write(of("+-<"), number(), number(), number(), 0);
        if (n < 14) return write('=', number(), upTo(5) - 1, 0, 0);
        if (n < 22) return write('p', number(), 0, 0, 0);
        if (n < 26) return write('!', chance(85) ? number() : upTo(6), thing(), upTo(3), 0);
        if (n < 30) return write('.', chance(80) ? number() : upTo(6), thing(), upTo(3), 0);
        if (n < 42) return write('C', number(), thing(), way(), number());
        if (n < 52) return hasIterator ? useIterator() : useRow();
        if (n < 55) return makeRowOrIterator(hasIterator);
        if (n < 59) return write(of("Ss"), number(), type(), upTo(2), 0);
        if (n < 63) return write('B', 3, thing(), 0, 0);
        if (n < 64) return write('U', 3, 3, type(), 0);
        if (n < 67) return write('T', number(), thing(), type(), 0);
        if (n < 69) return write('?', number(), upTo(6), upTo(6), 0);
        if (n < 71) return write(':', thing(), thing(), 0, 0);
        if (n < 74) return write('N', 3, chance(80) ? type() : -1 - upTo(6), 0, 0);
        if (n < 79) return write('x', number(), 0, 0, 0);
        if (n < 83) return body < RUNS && chance(90) ? write('p', number(), 0, 0, 0) : write('y', chance(80) ? number() : upTo(6), 0, 0, 0);
        if (n < 87) return write('z', number(), place(), 0, 0);
        if (n < 90) return write('j', 0, place(), 0, 0);
        if (n < 93) return write('r', chance(90) ? number() : upTo(6), 0, 0, 0);
        return write('e', 0, 0, 0, 0);
    }

    private int useIterator() {
        if (chance(25)) return write('Q', 4, 0, 0, 0);
        return write('E', number(), 4, chance(80) ? number() : upTo(6), 0);
    }

    private int useRow() {
        int n = upTo(10);
        if (n < 5) return write('I', number(), 4, number(), 0);
        return write(n < 7 ? 'P' : n < 8 ? 'M' : 'D', 4, n < 8 ? 4 : thing(), n < 8 ? 4 : way(), 0);
    }

    private int place() {
        return chance(10) ? upTo(25) : upTo(Math.max(1, length + 1));
    }

    // ---- regions, which mostly lie within those that follow

    private void tellRegions() {
        int count = chance(25) ? 0 : 1 + upTo(4);
        int first = upTo(Math.max(1, length)), last = first + upTo(5);
        for (int i = 0; i < count; i++) {
            char letter = of("ffffffcccww");
            int number = letter == 'w' ? method() : chance(60) ? -1 : upTo(6);
            int place = chance(80) && last < 22 ? last + 1 + upTo(Math.max(1, Math.min(24, length + 1) - last)) : place();
            addRegion(body, Math.min(23, first), Math.min(23, last), letter, number, Math.min(23, place));
            if (chance(50)) {
                first = Math.max(0, first - upTo(3));
                last = last + upTo(3);
            } else {
                first = upTo(Math.max(1, length));
                last = first + upTo(6);
            }
        }
        // Around all others, where there is room.
        if (chance(body < RUNS ? 70 : 25)) addRegion(body, 3, Math.min(22, length), 'c', -1, 23);
    }

    public static void main(String[] args) {
        int from = args.length > 0 ? Integer.parseInt(args[0]) : 0;
        int to = args.length > 1 ? Integer.parseInt(args[1]) : 20000;
        liveAll("RandomCodeTest", from, to, args.length > 0, RandomCodeTest::new);
    }
}
