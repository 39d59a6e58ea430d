import java.util.NoSuchElementException;

/** A town and the plainer writing of it, which are called alike, and must answer alike; made by random numbers. */
abstract class BothTowns {
    interface Answer { Object get(); }

    static final String OPS = "=:+-<?jzNd.!BUTCGEQySsDPMIxrep";
    private static final int[] ends = new int[128];
    private static final int[] thrown = new int[8];
    private static long finals, pieces, boxes, calls, steps, skipped;

    private long seed;
    final Reifytown town = new Reifytown();
    final PlainTown plain = new PlainTown();
    private final StringBuilder told = new StringBuilder();
    /** How often the town was called, which is at most 512 times. */
    int asked = 0;

    BothTowns(long seed) {
        this.seed = seed * 0x9E3779B97F4A7C15L + 12345;
    }

    /** Makes the town and calls it. */
    abstract void live();

    final int upTo(int n) {
        seed = seed * 6364136223846793005L + 1442695040888963407L;
        return (int) ((seed >>> 33) % n);
    }

    final boolean chance(int percent) {
        return upTo(100) < percent;
    }

    final char of(String letters) {
        return letters.charAt(upTo(letters.length()));
    }

    private static Object answer(Answer a) {
        try {
            return a.get();
        } catch (IndexOutOfBoundsException e) {
            return "throws " + IndexOutOfBoundsException.class;
        } catch (PlainTown.TooBig e) {
            throw e;
        } catch (IllegalArgumentException | UnsupportedOperationException | IllegalStateException
                | NoSuchElementException | ArithmeticException e) {
            return "throws " + e.getClass();
        }
    }

    final Object both(String call, Answer a, Answer b) {
        asked++;
        Object want = answer(b);
        Object got = answer(a);
        told.append(call).append(" -> ").append(want).append('\n');
        if (!want.equals(got)) {
            throw new IllegalStateException(told + "but answered " + got);
        }
        return want;
    }

    final int addBody() {
        return (Integer) both("addBody", () -> town.addBody(), () -> plain.addBody());
    }

    final void addStep(int body, char op, int a, int b, int c, int d) {
        both("addStep " + body + " " + op + " " + a + " " + b + " " + c + " " + d,
            () -> town.addStep(body, op, a, b, c, d), () -> plain.addStep(body, op, a, b, c, d));
    }

    final void addRegion(int body, int first, int last, char letter, int number, int place) {
        both("addRegion " + body + " " + first + " " + last + " " + letter + " " + number + " " + place,
            () -> town.addRegion(body, first, last, letter, number, place),
            () -> plain.addRegion(body, first, last, letter, number, place));
    }

    final void addMethod(int kind, int name, char letter, int body) {
        both("addMethod " + kind + " " + name + " " + letter + " " + body,
            () -> town.addMethod(kind, name, letter, body), () -> plain.addMethod(kind, name, letter, body));
    }

    final void tell(int kind, int other, int name, int body) {
        both("tell " + kind + " " + other + " " + name + " " + body,
            () -> town.tell(kind, other, name, body), () -> plain.tell(kind, other, name, body));
    }

    final void setReady(int kind, int body) {
        both("setReady " + kind + " " + body, () -> town.setReady(kind, body), () -> plain.setReady(kind, body));
    }

    final void addKind(char letter, boolean hasParameter, char variance, char limit) {
        both("addKind " + letter + hasParameter + variance + limit,
            () -> town.addKind(letter, hasParameter, variance, limit), () -> plain.addKind(letter, hasParameter, variance, limit));
    }

    final void setParent(int kind, int other, int argument) {
        both("setParent " + kind + " " + other + " " + argument,
            () -> town.setParent(kind, other, argument), () -> plain.setParent(kind, other, argument));
    }

    final void addInterface(int kind, int other, int argument) {
        both("addInterface " + kind + " " + other + " " + argument,
            () -> town.addInterface(kind, other, argument), () -> plain.addInterface(kind, other, argument));
    }

    final void addType(int kind, int argument) {
        both("type " + kind + " " + argument, () -> town.type(kind, argument), () -> plain.type(kind, argument));
    }

    /** Runs a body in one way or the other, or in both. */
    final void perform(int body, int argument) {
        PlainTown.copies = 0;
        if (chance(60)) {
            both("run " + body + " " + argument, () -> town.run(body, argument), () -> plain.run(body, argument));
        } else if (chance(50)) {
            both("runWritten " + body + " " + argument, () -> town.runWritten(body, argument), () -> plain.runWritten(body, argument));
        } else {
            both("isSame " + body + " " + argument, () -> town.isSame(body, argument), () -> plain.isSame(body, argument));
        }
        look();
    }

    private void look() {
        both("returned", () -> town.returned(), () -> plain.returned());
        both("number", () -> town.number(), () -> plain.number());
        both("unhandled", () -> town.unhandled(), () -> plain.unhandled());
        both("outputs", () -> town.outputs(), () -> plain.outputs());
        for (int i = 0; i < Math.min(20, plain.outputs()); i++) {
            int at = i;
            both("output " + i, () -> town.output(at), () -> plain.output(at));
        }
        both("steps", () -> town.steps(), () -> plain.steps());
        both("pieces", () -> town.pieces(), () -> plain.pieces());
        both("calls", () -> town.calls(), () -> plain.calls());
        both("boxes", () -> town.boxes(), () -> plain.boxes());
        both("finals", () -> town.finals(), () -> plain.finals());
        both("types", () -> town.types(), () -> plain.types());
        both("allSteps", () -> town.allSteps(), () -> plain.allSteps());
        both("pieceShare", () -> town.pieceShare(), () -> plain.pieceShare());
        both("meanSteps", () -> town.meanSteps(), () -> plain.meanSteps());
        for (int i = 0; i < 6; i++) {
            int t = upTo(62), s = upTo(3);
            both("staticOf " + t + " " + s, () -> town.staticOf(t, s), () -> plain.staticOf(t, s));
        }
        count();
    }

    private void count() {
        if (plain.last == null) return;
        ends[plain.last.end]++;
        if (plain.last.end == 'u') thrown[plain.last.unhandled >= 0 && plain.last.unhandled < 7 ? plain.last.unhandled : 7]++;
        finals += plain.last.finals; pieces += plain.last.pieces.size(); boxes += plain.last.boxes;
        calls += plain.last.calls; steps += plain.last.steps;
    }

    /** Makes and calls the towns of these numbers; tells how often each step was tried, if asked for. */
    static void liveAll(String name, int from, int to, boolean isTelling, Maker maker) {
        for (int i = from; i < to; i++) {
            try {
                maker.of(i).live();
            } catch (PlainTown.TooBig e) {
                skipped++;
            } catch (IllegalStateException e) {
                System.out.println("town " + i + ":\n" + e.getMessage());
                System.exit(1);
            }
        }
        System.out.println(name + ": " + (to - from) + " passed, 0 failed");
        if (isTelling) {
            System.out.println("r " + ends['r'] + " u " + ends['u'] + " l " + ends['l'] + " thrown "
                + java.util.Arrays.toString(thrown) + " finals " + finals + " pieces " + pieces + " boxes " + boxes
                + " calls " + calls + " steps " + steps + " skipped " + skipped);
            for (char op : OPS.toCharArray()) System.out.print(op + " " + PlainTown.done[op] + "/" + PlainTown.tried[op] + "  ");
            System.out.println();
        }
    }

    interface Maker { BothTowns of(int number); }
}
