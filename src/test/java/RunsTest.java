/** Promises 15 to 31: what runs do, and what they tell. */
public final class RunsTest {
    public static void main(String[] args) {
        promise15Numbers();
        promise15Sameness();
        promise15Jumps();
        promise15NewValues();
        promise15Fields();
        promise15Boxes();
        promise15TypeTests();
        promise15Calls();
        promise15Receivers();
        promise15TypesInSteps();
        promise15ArgumentOfMethod();
        promise15Depth();
        promise15Iterators();
        promise15IteratorFaults();
        promise15IteratorsAtLast();
        promise15IteratorsGivingAtLast();
        promise15Delegates();
        promise15DelegateRows();
        promise15RowsInOrder();
        promise15Handlers();
        promise15Filters();
        promise15AtLast();
        promise15AtLastUnderThrow();
        promise15AtLastTakenOver();
        promise15AtLastKept();
        promise15EndOfBody();
        promise15Statics();
        promise15StaticsSpoilt();
        promise15Limit();
        promise16Written();
        promise24Pieces();
        promise17To21Answers();
        promise22StaticOf();
        promise23To30Counts();
        promise31IsSame();
        promise31Differences();
        manyCalls();
        Checks.close("RunsTest");
    }

    private static int body(Reifytown town, String... steps) {
        return Checks.body(town, steps);
    }

    private static void runs(String what, Reifytown town, int body, int argument, String due) {
        Checks.runs(what, town, body, argument, due);
    }

    /** Runs one body in a new town without kinds. */
    private static void alone(String what, int argument, String due, String... steps) {
        Reifytown town = new Reifytown();
        runs(what, town, body(town, steps), argument, due);
    }

    private static void promise15Numbers() {
        alone("15 argument", 7, "rn7", "r 1");
        alone("15 no receiver", 7, "r0", "r 0");
        alone("15 locals are null", 7, "r0", "r 5");
        alone("15 becomes", 7, "rn-9", "= 2 -9", "r 2");
        alone("15 copy", 7, "rn7", ": 4 1", "r 4");
        alone("15 plus", 7, "rn10", "= 2 3", "+ 3 1 2", "r 3");
        alone("15 minus", 7, "rn4", "= 2 3", "- 3 1 2", "r 3");
        alone("15 wraps", Integer.MAX_VALUE, "rn-2147483648", "= 2 1", "+ 3 1 2", "r 3");
        alone("15 less", 2, "rn1", "= 2 3", "< 3 1 2", "r 3");
        alone("15 not less", 3, "rn0", "= 2 3", "< 3 1 2", "r 3");
        alone("15 less by sign", -1, "rn1", "= 2 0", "< 3 1 2", "r 3");
        alone("15 null plus", 3, "u3", "+ 3 1 2", "r 3");
        alone("15 minus null", 3, "u3", "- 3 2 1", "r 3");
        alone("15 null less", 3, "u3", "< 3 1 2", "r 3");
        alone("15 put out", 3, "r0 3 -4", "p 1", "= 2 -4", "p 2");
        alone("15 put null out", 3, "u3", "p 2");
        alone("15 throw", 44, "u44", "x 1");
        alone("15 throw null", 44, "u3", "x 2");
        alone("15 put out ahead of a throw", 44, "u44 44", "p 1", "x 1");
        alone("15 end elsewhere", 5, "rn5", "e", "r 1");
    }

    private static void promise15Sameness() {
        alone("15 same number", 7, "rn1", "= 2 7", "? 3 1 2", "r 3");
        alone("15 other number", 7, "rn0", "= 2 8", "? 3 1 2", "r 3");
        alone("15 null and null", 7, "rn1", "? 3 4 5", "r 3");
        alone("15 null and 0", 0, "rn0", "? 3 1 5", "r 3");
        Reifytown town = new Reifytown();
        town.addKind('s', false, '=', '-');
        town.addKind('s', true, '=', '-');
        town.addKind('c', false, '=', '-');
        int s = town.type(0, -1);
        int u = town.type(1, 0);
        int v = town.type(1, 1);
        int c = town.type(2, -1);
        runs("15 two structures", town, body(town, "N 2 " + s, "N 3 " + s, "? 4 2 3", "r 4"), 1, "rn1");
        runs("15 of two types", town, body(town, "N 2 " + u, "N 3 " + v, "? 4 2 3", "r 4"), 1, "rn0");
        runs("15 other fields", town, body(town, "N 2 " + s, "N 3 " + s, "! 1 2 1", "? 4 2 3", "r 4"), 1, "rn0");
        runs("15 within one another", town, body(town, "N 2 " + s, "N 3 " + u, "! 2 3 0", ": 4 3", "! 1 2 2",
            "? 5 3 4", "p 5", "! 2 4 0", "? 5 3 4", "r 5"), 9, "rn0 1");
        runs("15 two objects", town, body(town, "N 2 " + c, "N 3 " + c, "? 4 2 3", "p 4", ": 3 2", "? 4 2 3", "r 4"),
            1, "rn1 0");
        runs("15 two boxes", town, body(town, "B 2 1", "B 3 1", "? 4 2 3", "p 4", ": 3 2", "? 4 2 3", "r 4"), 1, "rn1 0");
        runs("15 object in a structure", town, body(town, "N 2 " + s, "N 3 " + c, "! 3 2 0", ": 4 2", "? 5 2 4", "p 5",
            "N 3 " + c, "! 3 4 0", "? 5 2 4", "r 5"), 1, "rn0 1");
    }

    private static void promise15Jumps() {
        alone("15 jump", 1, "rn1 1", "j 0 2", "x 1", "p 1", "r 1");
        alone("15 zero jumps", 0, "r0", "z 1 2", "x 1", "e");
        alone("15 null jumps", 1, "r0", "z 4 2", "x 1", "e");
        alone("15 one does not", 1, "u1", "z 1 2", "x 1", "e");
        alone("15 jump behind the end", 1, "r0", "j 0 24", "x 1");
        alone("15 loop", 3, "rn0 3 2 1", "= 2 1", "z 1 5", "p 1", "- 1 1 2", "j 0 1", "r 1");
        Reifytown town = new Reifytown();
        town.addKind('c', false, '=', '-');
        int c = town.type(0, -1);
        runs("15 a reference does not jump", town, body(town, "N 2 " + c, "z 2 3", "r 2", "x 1"), 1, "ro");
    }

    private static void promise15NewValues() {
        Reifytown town = new Reifytown();
        town.addKind('s', false, '=', '-');
        town.addKind('c', false, '=', '-');
        town.addKind('i', false, '=', '-');
        int s = town.type(0, -1);
        int c = town.type(1, -1);
        int f = town.type(2, -1);
        runs("15 new int", town, body(town, "N 2 0", "r 2"), 5, "rn0");
        runs("15 new structure", town, body(town, "N 2 " + s, "r 2"), 5, "rs");
        runs("15 new object", town, body(town, "N 2 " + c, "r 2"), 5, "ro");
        runs("15 new interface", town, body(town, "N 2 " + f, "r 2"), 5, "u3");
        runs("15 new object type", town, body(town, "N 2 1", "r 2"), 5, "u3");
        runs("15 new type that is not there", town, body(town, "N 2 5", "r 2"), 5, "u3");
        runs("15 none of int", town, body(town, "d 2 0", "r 2"), 5, "rn0");
        runs("15 none of a structure", town, body(town, "d 2 " + s, ". 3 2 2", "p 3", "r 2"), 5, "rs 0");
        runs("15 none of a class", town, body(town, "= 2 4", "d 2 " + c, "r 2"), 5, "r0");
        runs("15 none of an interface", town, body(town, "= 2 4", "d 2 " + f, "r 2"), 5, "r0");
        runs("15 none of object", town, body(town, "= 2 4", "d 2 1", "r 2"), 5, "r0");
        runs("15 none of no type", town, body(town, "d 2 99", "r 2"), 5, "u3");
        runs("15 fields are 0", town, body(town, "N 2 " + c, ". 3 2 0", ". 4 2 1", ". 5 2 2", "p 3", "p 4", "p 5"), 5,
            "r0 0 0 0");
    }

    private static void promise15Fields() {
        Reifytown town = new Reifytown();
        town.addKind('s', false, '=', '-');
        town.addKind('c', false, '=', '-');
        int s = town.type(0, -1);
        int c = town.type(1, -1);
        runs("15 object is shared", town, body(town, "N 2 " + c, ": 3 2", "! 1 2 1", ". 4 3 1", "r 4"), 8, "rn8");
        runs("15 structure is copied", town, body(town, "N 2 " + s, ": 3 2", "! 1 2 1", ". 4 3 1", "r 4"), 8, "rn0");
        runs("15 structure changes", town, body(town, "N 2 " + s, "! 1 2 1", ". 4 2 1", "r 4"), 8, "rn8");
        runs("15 copied into a field", town, body(town, "N 2 " + c, "N 3 " + s, "! 3 2 0", "! 1 3 0", ". 4 2 0",
            ". 5 4 0", "r 5"), 8, "rn0");
        runs("15 copied out of a field", town, body(town, "N 2 " + c, "N 3 " + s, "! 3 2 0", ". 4 2 0", "! 1 4 0",
            ". 4 2 0", ". 5 4 0", "r 5"), 8, "rn0");
        runs("15 a structure in itself", town, body(town, "N 2 " + s, "! 1 2 1", "! 2 2 0", ". 3 2 0", ". 4 3 1", "p 4",
            ". 4 3 0", "r 4"), 8, "rn0 8");
        runs("15 field of null", town, body(town, ". 2 3 0"), 8, "u1");
        runs("15 field of a number", town, body(town, ". 2 1 0"), 8, "u3");
        runs("15 field of null set", town, body(town, "! 1 3 0"), 8, "u1");
        runs("15 field of a number set", town, body(town, "! 1 1 0"), 8, "u3");
        runs("15 grows without end", town, body(town, "N 2 " + s, "! 2 2 0", "! 2 2 1", "! 2 2 2", "j 0 1"), 8, "l");
        runs("15 two that grew so", town, body(town, "N 2 " + s, "N 3 " + s, "= 4 1", "= 5 60", "! 2 2 0", "! 2 2 1",
            "! 3 3 0", "! 3 3 1", "- 5 5 4", "z 5 11", "j 0 4", "? 4 2 3", "r 4"), 8, "rn1");
    }

    private static void promise15Boxes() {
        Reifytown town = new Reifytown();
        town.addKind('s', false, '=', '-');
        town.addKind('c', false, '=', '-');
        town.addKind('i', false, '=', '-');
        town.addKind('s', false, '=', '-');
        town.addInterface(3, 2, -1);
        int s = town.type(0, -1);
        int c = town.type(1, -1);
        int f = town.type(2, -1);
        int t = town.type(3, -1);
        runs("15 box of a number", town, body(town, "B 2 1", "r 2"), 8, "rb");
        Checks.same("26 one box", town.boxes(), 1);
        runs("15 out again", town, body(town, "B 2 1", "U 3 2 0", "r 3"), 8, "rn8");
        runs("15 a copy goes in", town, body(town, "N 2 " + s, "B 3 2", "! 1 2 0", "U 4 3 " + s, ". 5 4 0", "r 5"), 8, "rn0");
        runs("15 a copy comes out", town, body(town, "N 2 " + s, "B 3 2", "U 4 3 " + s, "! 1 4 0", "U 4 3 " + s,
            ". 5 4 0", "r 5"), 8, "rn0");
        runs("15 box of an object", town, body(town, "N 2 " + c, "B 3 2", "? 4 2 3", "r 4"), 8, "rn1");
        Checks.same("26 no box", town.boxes(), 0);
        runs("15 box of null", town, body(town, "B 3 2", "r 3"), 8, "r0");
        int b = body(town, "B 3 1", "B 2 3", "? 4 2 3", "r 4");
        runs("15 box of a box", town, b, 8, "rn1");
        Checks.same("26 one box of two", town.boxes(), 1);
        Reifytown two = new Reifytown();
        two.addKind('s', false, '=', '-');
        two.addKind('c', false, '=', '-');
        two.addKind('i', false, '=', '-');
        two.addKind('s', false, '=', '-');
        two.addInterface(3, 2, -1);
        for (int k = 0; k < 4; k++) {
            two.type(k, -1);
        }
        runs("15 null as a value", two, body(two, "U 3 2 0"), 8, "u1");
        runs("15 null as a structure", two, body(two, "U 3 2 " + s), 8, "u1");
        runs("15 a number that is not boxed", two, body(two, "U 3 1 0"), 8, "u2");
        runs("15 another type", two, body(two, "B 2 1", "U 3 2 " + s), 8, "u2");
        runs("15 an object as a value", two, body(two, "N 2 " + c, "U 3 2 " + s), 8, "u2");
        runs("15 null as a reference", two, body(two, "U 3 2 " + c, "r 3"), 8, "r0");
        runs("15 object as its class", two, body(two, "N 2 " + c, "U 3 2 " + c, "r 3"), 8, "ro");
        runs("15 object as object", two, body(two, "N 2 " + c, "U 3 2 1", "r 3"), 8, "ro");
        runs("15 object as another", two, body(two, "N 2 " + c, "U 3 2 " + f, "r 3"), 8, "u2");
        runs("15 box as an interface", two, body(two, "N 2 " + t, "B 2 2", "U 3 2 " + f, "r 3"), 8, "rb");
        runs("15 box as object", two, body(two, "B 2 1", "U 3 2 1", "r 3"), 8, "rb");
        runs("15 box as no interface", two, body(two, "N 2 " + s, "B 2 2", "U 3 2 " + f, "r 3"), 8, "u2");
        runs("15 type ahead of a value", two, body(two, "U 3 2 77"), 8, "u3");
    }

    private static void promise15TypeTests() {
        Reifytown town = new Reifytown();
        town.addKind('i', false, '=', '-');
        town.addKind('s', false, '=', '-');
        town.addKind('c', false, '=', '-');
        town.addInterface(1, 0, -1);
        int f = town.type(0, -1);
        int s = town.type(1, -1);
        int c = town.type(2, -1);
        runs("15 T of a structure", town, body(town, "N 2 " + s, "T 3 2 " + s, "T 4 2 " + f, "T 5 2 " + c, "p 3", "p 4",
            "p 5", "T 3 2 1", "r 3"), 0, "rn1 1 1 0");
        runs("15 T of its box", town, body(town, "N 2 " + s, "B 2 2", "T 3 2 " + s, "T 4 2 " + f, "T 5 2 0", "p 3",
            "p 4", "p 5"), 0, "r0 1 1 0");
        runs("15 T of a number", town, body(town, "T 3 1 0", "T 4 1 1", "T 5 1 " + s, "p 3", "p 4", "p 5"), 0, "r0 1 1 0");
        runs("15 T of null", town, body(town, "T 3 2 1", "r 3"), 0, "rn0");
        runs("15 T of an object", town, body(town, "N 2 " + c, "T 3 2 " + c, "T 4 2 1", "T 5 2 " + f, "p 3", "p 4",
            "p 5"), 0, "r0 1 1 0");
        runs("15 T of a delegate", town, body(town, "D 2 1 0", "T 3 2 1", "r 3"), 0, "rn0");
        runs("15 T without a type", town, body(town, "T 3 2 77", "r 3"), 0, "u3");
    }

    private static void promise15Calls() {
        Reifytown town = new Reifytown();
        town.addKind('c', false, '=', '-');
        town.addKind('i', false, '=', '-');
        town.addKind('c', false, '=', '-');
        town.setParent(2, 0, -1);
        town.addInterface(2, 1, -1);
        int add = body(town, ". 2 0 0", "+ 2 2 1", "! 2 0 0", "r 2");
        int twice = body(town, "+ 2 1 1", "C 3 0 0 2", "r 3");
        int back = body(town, "r 0");
        town.addMethod(0, 0, 'v', add);
        town.addMethod(0, 1, 'n', twice);
        town.addMethod(2, 0, 'o', back);
        town.addMethod(1, 4, 'd', back);
        town.addMethod(1, 5, 'a', -1);
        int top = town.type(0, -1);
        int sub = town.type(2, -1);
        runs("15 call", town, body(town, "N 2 " + top, "C 3 2 0 1", "C 3 2 0 1", "r 3"), 4, "rn8");
        Checks.same("25 two calls", town.calls(), 2);
        Checks.same("24 one piece", town.pieces(), 1);
        runs("15 calls another", town, body(town, "N 2 " + top, "C 3 2 1 1", "r 3"), 4, "rn8");
        runs("15 overridden", town, body(town, "N 2 " + sub, "C 3 2 1 1", "? 4 3 2", "r 4"), 4, "rn1");
        runs("15 default", town, body(town, "N 2 " + sub, "C 3 2 14 1", "? 4 3 2", "r 4"), 4, "rn1");
        int faults = body(town, "C 3 2 0 1");
        runs("15 null receiver", town, faults, 4, "u1");
        runs("15 null ahead of a kind", town, body(town, "C 3 2 90 1"), 4, "u1");
        runs("15 no such kind", town, body(town, "N 2 " + top, "C 3 2 90 1"), 4, "u3");
        runs("15 wrong static kind", town, body(town, "N 2 " + top, "C 3 2 20 1"), 4, "u3");
        runs("15 number as a receiver", town, body(town, "C 3 1 0 1"), 4, "u3");
        runs("15 no body to be found", town, body(town, "N 2 " + sub, "C 3 2 15 1"), 4, "u4");
        Checks.same("25 no call", town.calls(), 0);
    }

    private static void promise15Receivers() {
        Reifytown town = new Reifytown();
        town.addKind('i', false, '=', '-');
        town.addKind('s', false, '=', '-');
        town.addInterface(1, 0, -1);
        int count = body(town, ". 2 0 0", "= 3 1", "+ 2 2 3", "! 2 0 0", "r 2");
        int both = body(town, "C 2 0 10 1", "C 2 0 0 1", "r 2");
        int own = body(town, ": 2 0", "C 3 2 10 1", ": 0 2", "C 3 0 10 1", "r 3");
        town.addMethod(1, 0, 'v', count);
        town.addMethod(1, 1, 'v', both);
        town.addMethod(1, 2, 'v', own);
        int s = town.type(1, -1);
        runs("15 where it is", town, body(town, "N 2 " + s, "C 3 2 10 1", "C 3 2 0 1", ". 4 2 0", "r 4"), 0, "rn2");
        runs("15 through two calls", town, body(town, "N 2 " + s, "C 3 2 11 1", "p 3", ". 4 2 0", "r 4"), 0, "rn2 2");
        runs("15 a copy of the receiver", town, body(town, "N 2 " + s, "C 3 2 12 1", "p 3", ". 4 2 0", "r 4"), 0, "rn0 2");
        runs("15 in the box", town, body(town, "N 2 " + s, "B 3 2", "C 4 3 10 1", "C 4 3 1 1", "p 4",
            "U 5 3 " + s, ". 4 5 0", "p 4", ". 4 2 0", "r 4"), 0, "rn0 3 3");
        runs("15 argument is copied", town, body(town, "N 2 " + s, "C 3 2 10 2", ". 4 2 0", "r 4"), 0, "rn1");
        runs("15 number in a box", town, body(town, "B 3 1", "C 4 3 10 1"), 0, "u3");
    }

    private static void promise15TypesInSteps() {
        Reifytown town = new Reifytown();
        town.addKind('s', true, '=', '-');
        town.addKind('c', true, '=', 'r');
        town.addKind('c', false, '=', '-');
        town.addKind('c', true, '=', '-');
        int make = body(town, "N 2 -2", "r 2");
        int argument = body(town, "d 2 -1", "r 2");
        town.addMethod(2, 0, 'v', argument);
        town.addMethod(2, 1, 'v', make);
        town.addMethod(3, 0, 'v', argument);
        town.addMethod(3, 1, 'v', body(town, "N 2 -5", "C 3 2 31 1"));
        int plain = town.type(2, -1);
        int ofPlain = town.type(3, plain);
        int count = town.types();
        runs("15 -1 is int", town, body(town, "N 2 -1", "r 2"), 0, "rn0");
        Checks.same("6 none made", town.types(), count);
        runs("15 a kind with int", town, make, 0, "rs");
        Checks.same("6 one made", town.types(), count + 1);
        runs("15 it is there", town, make, 0, "rs");
        Checks.same("6 once", town.types(), count + 1);
        runs("15 limit", town, body(town, "N 2 -3"), 0, "u6");
        runs("15 kind without a parameter", town, body(town, "N 2 -4"), 0, "u3");
        runs("15 kind that is not there", town, body(town, "N 2 -6"), 0, "u3");
        runs("15 no argument", town, body(town, "N 2 " + plain, "C 3 2 20 1"), 0, "u6");
        runs("15 no argument for a kind", town, body(town, "N 2 " + plain, "C 3 2 21 1"), 0, "u6");
        runs("15 argument", town, body(town, "N 2 " + ofPlain, "= 3 1", "C 3 2 30 1", "r 3"), 0, "r0");
        runs("15 deep", town, body(town, "N 2 " + ofPlain, "C 3 2 31 1", "r 3"), 0, "u6");
        runs("15 type ahead of a value", town, body(town, "s 5 1 0"), 0, "u3");
    }

    private static void promise15ArgumentOfMethod() {
        Reifytown town = new Reifytown();
        town.addKind('i', true, '=', '-');
        town.addKind('c', true, '=', '-');
        town.addKind('c', true, '=', '-');
        town.addKind('s', false, '=', '-');
        int s = town.type(3, -1);
        town.addInterface(1, 0, s);
        town.setParent(2, 1, 0);
        town.addInterface(2, 0, -2);
        int body = body(town, "N 2 -1", "r 2");
        town.addMethod(0, 0, 'd', body);
        town.addMethod(1, 1, 'v', body);
        int top = town.type(1, 1);
        int low = town.type(2, s);
        int lowest = town.type(2, 0);
        runs("15 for the interface", town, body(town, "N 2 " + top, "C 3 2 0 1", "r 3"), 0, "rs");
        runs("15 own interfaces first", town, body(town, "N 2 " + lowest, "C 3 2 0 1", "r 3"), 0, "rn0");
        runs("15 for the parent", town, body(town, "N 2 " + low, "C 3 2 11 1", "r 3"), 0, "rn0");
    }

    private static void promise15Depth() {
        Reifytown town = new Reifytown();
        town.addKind('c', false, '=', '-');
        int down = body(town, "p 1", "= 2 1", "+ 1 1 2", "C 3 0 0 1", "r 1");
        town.addMethod(0, 0, 'v', down);
        int c = town.type(0, -1);
        int start = body(town, "N 2 " + c, "C 3 2 0 1", "r 3");
        runs("15 twelve calls", town, start, 1, "u6 1 2 3 4 5 6 7 8 9 10 11");
        Checks.same("25 eleven calls", town.calls(), 11);
        Checks.same("24 one piece", town.pieces(), 1);
        int filter = body(town, "p 1", "r 1");
        int catches = body(town, "N 2 " + c, "C 3 2 1 1", "r 3", "r 5");
        town.addRegion(catches, 1, 1, 'w', filter, 3);
        int lower = body(town, "= 2 1", "- 1 1 2", "z 1 5", "C 3 0 1 1", "r 3", "x 4");
        town.addMethod(0, 1, 'v', lower);
        runs("15 filter as the twelfth", town, catches, 10, "rn3 3");
        runs("15 filter as the thirteenth", town, catches, 11, "u3");
        Checks.same("25 it is not called", town.calls(), 11);
    }

    private static void promise15Iterators() {
        Reifytown town = new Reifytown();
        town.addKind('c', false, '=', '-');
        town.addKind('s', false, '=', '-');
        int upTo = body(town, "= 2 0", "= 3 1", "< 4 2 1", "z 4 8", "y 2", "+ 2 2 3", "j 0 2", "x 1", "r 1");
        int bump = body(town, "= 3 5", "! 3 0 0", "y 0", ". 2 0 0", "y 2");
        town.addMethod(0, 0, 'v', upTo);
        town.addMethod(1, 0, 'v', bump);
        int c = town.type(0, -1);
        int s = town.type(1, -1);
        runs("15 made", town, body(town, "N 2 " + c, "G 3 2 0 1", "r 3"), 3, "ri");
        Checks.same("23 it has not begun", town.steps(), 3);
        Checks.same("24 its piece", town.pieces(), 1);
        Checks.same("25 no call", town.calls(), 0);
        int all = body(town, "N 2 " + c, "G 3 2 0 1", "E 4 3 5", "p 4", "z 4 7", "p 5", "j 0 2", "E 4 3 5", "p 4", "r 5");
        runs("15 all of them", town, all, 2, "rn1 1 0 1 1 0 0");
        Checks.same("25 going on is no call", town.calls(), 0);
        runs("15 into one local", town, body(town, "N 2 " + c, "G 3 2 0 1", "E 4 3 4", "p 4", "E 4 3 4", "r 4"), 2, "rn1 0");
        runs("15 two stand apart", town, body(town, "N 2 " + c, "G 3 2 0 1", "G 4 2 0 1", "E 5 3 5", "E 5 3 5", "p 5",
            "E 5 4 5", "r 5"), 4, "rn0 1");
        runs("15 the structure is copied", town, body(town, "N 2 " + s, "G 3 2 10 1", "E 4 3 4", ". 5 4 0", "p 5",
            ". 5 2 0", "p 5", "E 4 3 4", "r 4"), 0, "rn5 5 0");
        runs("15 over by Q", town, body(town, "N 2 " + c, "G 3 2 0 1", "E 4 3 5", "Q 3", "E 4 3 5", "p 5", "r 4"), 3, "rn0 0");
        runs("15 Q ahead of all", town, body(town, "N 2 " + c, "G 3 2 0 1", "Q 3", "Q 3", "E 4 3 5", "r 4"), 3, "rn0");
    }

    private static void promise15IteratorFaults() {
        Reifytown town = new Reifytown();
        town.addKind('c', false, '=', '-');
        int itself = body(town, "N 3 2", ". 3 0 0", "E 4 3 4", "e");
        int ends = body(town, ". 3 0 0", "Q 3", "e");
        int gives = body(town, "y 1");
        int calls = body(town, "C 2 0 2 1", "y 1");
        int throwing = body(town, "y 1", "x 1");
        town.addMethod(0, 0, 'v', itself);
        town.addMethod(0, 1, 'v', ends);
        town.addMethod(0, 2, 'v', gives);
        town.addMethod(0, 3, 'v', calls);
        town.addMethod(0, 4, 'v', throwing);
        town.type(0, -1);
        runs("15 E of null", town, body(town, "E 4 3 5"), 3, "u1");
        runs("15 E of a number", town, body(town, "E 4 1 5"), 3, "u3");
        runs("15 Q of null", town, body(town, "Q 3"), 3, "u1");
        runs("15 Q of a number", town, body(town, "Q 1"), 3, "u3");
        runs("15 y in a run", town, gives, 3, "u5");
        int ofMethod = body(town, "N 2 2", "= 3 0", "G 3 2 3 1", "E 4 3 5", "r 4");
        runs("15 y in a method", town, ofMethod, 3, "u5");
        int within = body(town, "N 2 2", "G 3 2 1 1", "! 3 2 0", "E 4 3 5", "r 4");
        runs("15 Q of one that goes on", town, within, 3, "u5");
        int again = body(town, "N 2 2", "G 3 2 4 1", "E 4 3 5", "E 4 3 5", "e", "p 5", "E 4 3 5", "r 4");
        town.addRegion(again, 3, 3, 'c', -1, 5);
        runs("15 over by a throw", town, again, 7, "rn0 7");
    }

    private static void promise15IteratorsAtLast() {
        Reifytown town = new Reifytown();
        town.addKind('c', false, '=', '-');
        int guarded = body(town, "y 1", "y 1", "e", "= 2 77", "p 2", "e");
        town.addRegion(guarded, 0, 1, 'f', 0, 3);
        int failing = body(town, "y 1", "e", "x 1");
        town.addRegion(failing, 0, 0, 'f', 0, 2);
        town.addMethod(0, 0, 'v', guarded);
        town.addMethod(0, 1, 'v', failing);
        town.type(0, -1);
        runs("15 Q does it at last", town, body(town, "N 2 2", "G 3 2 0 1", "E 4 3 5", "Q 3", "p 1", "Q 3", "E 4 3 5", "r 4"),
            3, "rn0 77 3");
        Checks.same("27 once", town.finals(), 1);
        runs("15 nothing ahead of the start", town, body(town, "N 2 2", "G 3 2 0 1", "Q 3", "p 1"), 3, "r0 3");
        int outside = body(town, "N 2 2", "G 3 2 0 1", "E 4 3 5", "E 4 3 5", "E 4 3 5", "Q 3", "r 4");
        runs("15 fell out of the region", town, outside, 3, "rn0 77");
        Checks.same("27 not at last", town.finals(), 0);
        int thrown = body(town, "N 2 2", "G 3 2 1 1", "E 4 3 5", "Q 3", "e", "p 5", "E 4 3 5", "r 4");
        town.addRegion(thrown, 3, 3, 'c', -1, 5);
        runs("15 thrown by Q", town, thrown, 3, "rn0 3");
    }

    private static void promise15IteratorsGivingAtLast() {
        Reifytown town = new Reifytown();
        town.addKind('c', false, '=', '-');
        town.type(0, -1);
        int itself = body(town, "y 1", "e", "S 2 2 0", "E 3 2 4", "e");
        town.addRegion(itself, 0, 0, 'f', 0, 2);
        int gives = body(town, "y 1", "e", "y 1", "p 1", "e");
        town.addRegion(gives, 0, 0, 'f', 0, 2);
        int thrown = body(town, "x 1", "e", "y 1", "p 1", "e");
        town.addRegion(thrown, 0, 0, 'f', 0, 2);
        int returned = body(town, "r 1", "e", "y 1", "p 1", "e");
        town.addRegion(returned, 0, 0, 'f', 0, 2);
        town.addMethod(0, 0, 'v', itself);
        town.addMethod(0, 1, 'v', gives);
        town.addMethod(0, 2, 'v', thrown);
        town.addMethod(0, 3, 'v', returned);
        int ends = body(town, "N 2 2", "G 3 2 0 1", "s 3 2 0", "E 4 3 5", "Q 3", "r 4");
        runs("15 E of one that is ended", town, ends, 3, "u5");
        int nobody = body(town, "N 2 2", "G 3 2 1 1", "E 4 3 5", "Q 3", "p 5", "E 4 3 5", "r 4");
        runs("15 gives to nobody", town, nobody, 3, "rn0 3 3");
        int rest = body(town, "N 2 2", "G 3 2 3 1", "E 4 3 5", "p 5", "p 4", "E 4 3 5", "r 4");
        runs("15 gives on its way out", town, rest, 3, "rn0 3 1 3");
        // Free in the document: the exception that stood still is thrown anew from the step that went on.
        int anew = body(town, "N 2 2", "G 3 2 2 1", "E 4 3 5", "p 4", "E 4 3 5", "x 5", "= 2 44", "p 2", "p 5");
        town.addRegion(anew, 2, 2, 'c', -1, 5);
        town.addRegion(anew, 4, 4, 'c', -1, 6);
        runs("15 thrown anew", town, anew, 7, "r0 1 7 44 7");
    }

    private static void promise15Delegates() {
        Reifytown town = new Reifytown();
        town.addKind('c', false, '=', '-');
        town.addKind('s', false, '=', '-');
        town.addKind('c', false, '=', '-');
        town.setParent(2, 0, -1);
        int tell = body(town, ". 2 0 0", "p 2", "+ 2 2 1", "! 2 0 0", "r 2");
        town.addMethod(0, 0, 'v', tell);
        town.addMethod(1, 0, 'v', tell);
        town.addMethod(2, 0, 'o', body(town, "p 1", "r 0"));
        int c = town.type(0, -1);
        int s = town.type(1, -1);
        int sub = town.type(2, -1);
        runs("15 delegate", town, body(town, "N 2 " + c, "D 3 2 0", "I 4 3 1", "I 4 3 1", "r 4"), 6, "rn12 0 6");
        Checks.same("25 its calls", town.calls(), 2);
        Checks.same("24 its piece", town.pieces(), 1);
        runs("15 its kind", town, body(town, "N 2 " + c, "D 3 2 0", "r 3"), 6, "rd");
        runs("15 overridden", town, body(town, "N 2 " + sub, "D 3 2 0", "I 4 3 1", "? 5 4 2", "r 5"), 6, "rn1 6");
        runs("15 structure in a target", town, body(town, "N 2 " + s, "D 3 2 10", "I 4 3 1", "I 4 3 1", ". 5 2 0", "r 5"),
            6, "rn0 0 6");
        runs("15 targets are shared", town, body(town, "N 2 " + s, "D 3 2 10", "P 4 3 3", "I 5 4 1", "I 5 3 1", "r 5"), 1,
            "rn3 0 1 2");
        runs("15 call of null", town, body(town, "I 4 3 1"), 6, "u1");
        runs("15 call of a number", town, body(town, "I 4 1 1"), 6, "u3");
        runs("15 found as it is called", town, body(town, "D 3 1 0", "p 1", "I 4 3 1"), 6, "u3 6");
        runs("15 receiver null as it is called", town, body(town, "D 3 2 0", "p 1", "I 4 3 1"), 6, "u1 6");
    }

    private static void promise15DelegateRows() {
        Reifytown town = new Reifytown();
        town.addKind('c', false, '=', '-');
        int one = body(town, "= 2 1", "p 2", "r 2");
        int two = body(town, "= 2 2", "p 2", "r 2");
        town.addMethod(0, 0, 'v', one);
        town.addMethod(0, 1, 'v', two);
        town.addMethod(0, 2, 'v', body(town, "x 1"));
        int c = town.type(0, -1);
        String make = "N 2 " + c;
        runs("15 joined", town, body(town, make, "D 3 2 0", "D 4 2 1", "P 5 3 4", "I 1 5 1", "r 1"), 0, "rn2 1 2");
        runs("15 joined with null", town, body(town, make, "D 3 2 0", "P 5 3 4", "I 1 5 1", "? 4 3 5", "r 4"), 0, "rn0 1");
        runs("15 null and null", town, body(town, "P 5 3 4", "r 5"), 0, "r0");
        runs("15 without the last", town, body(town, make, "D 3 2 0", "D 4 2 1", "P 5 3 4", "P 5 5 3", "M 5 5 3", "I 1 5 1",
            "r 1"), 0, "rn2 1 2");
        runs("15 without a row", town, body(town, make, "D 3 2 0", "D 4 2 1", "P 5 3 4", "P 1 5 5", "P 1 1 3", "M 1 1 5",
            "I 4 1 2", "r 4"), 0, "rn1 1 2 1");
        runs("15 without one like it", town, body(town, make, "D 3 2 0", "D 4 2 0", "M 5 3 4", "r 5"), 0, "r0");
        runs("15 without one of another name", town, body(town, make, "D 3 2 0", "D 4 2 1", "M 5 3 4", "? 1 5 3", "r 1"), 0,
            "rn1");
        runs("15 without a longer one", town, body(town, make, "D 3 2 0", "P 4 3 3", "M 5 3 4", "r 5"), 0, "rd");
        runs("15 without null", town, body(town, make, "D 3 2 0", "M 5 3 4", "I 1 5 1", "M 5 4 3", "r 5"), 0, "r0 1");
        Reifytown other = new Reifytown();
        other.addKind('c', false, '=', '-');
        other.addMethod(0, 0, 'v', body(other, "p 1", "r 1"));
        other.addMethod(0, 2, 'v', body(other, "x 1"));
        other.type(0, -1);
        runs("15 join a number", other, body(other, "P 5 3 1"), 0, "u3");
        runs("15 without a number", other, body(other, "M 5 1 3"), 0, "u3");
        runs("15 a throw ends the row", other, body(other, "N 2 2", "D 3 2 0", "D 4 2 2", "P 5 3 4", "P 5 5 3", "I 1 5 1"), 8,
            "u8 8");
        other.addKind('c', false, '=', '-');
        other.addMethod(1, 0, 'v', body(other));
        int empty = other.type(1, -1);
        int twice = body(other, "N 2 " + empty, "D 3 2 10", "P 3 3 3", "P 3 3 3", "P 3 3 3", "P 3 3 3", "I 4 3 1", "r 4");
        runs("15 bodies without steps", other, twice, 0, "r0");
        Checks.same("25 each is called", other.calls(), 16);
        Checks.same("23 no steps of theirs", other.steps(), 8);
        int loop = body(other, "N 2 " + empty, "D 3 2 10", "P 3 3 3", "j 0 2");
        runs("15 rows without end", other, loop, 0, "l");
        int prepend = body(other, "N 2 " + empty, "D 3 2 10", "P 4 3 4", "P 5 4 4", "M 5 5 3", "j 0 2");
        runs("15 long rows", other, prepend, 0, "l");
    }

    private static void promise15RowsInOrder() {
        Reifytown town = new Reifytown();
        town.addKind('c', false, '=', '-');
        for (int i = 0; i < 3; i++) {
            town.addMethod(0, i, 'v', body(town, "= 2 " + i, "p 2"));
        }
        town.type(0, -1);
        String[] begin = {"N 2 2", "D 3 2 0", "D 4 2 1", "D 5 2 2"};
        String[][] rows = {
            {"P 1 4 3", "1 0"}, {"P 1 5 4;P 1 1 3", "2 1 0"}, {"P 1 3 4;P 1 4 1;P 1 1 5", "1 0 1 2"},
            {"P 1 3 4;P 1 1 5;M 1 1 4", "0 2"}, {"P 1 3 4;P 1 1 5;M 1 1 3", "1 2"}, {"P 1 3 4;P 1 1 5;M 1 1 5", "0 1"},
            {"P 1 3 4;P 1 1 1;P 1 1 5;M 1 1 4", "0 1 0 2"}, {"P 1 3 4;P 5 1 5;P 5 5 1;P 5 5 5;M 1 5 1", "0 1 2 0 1 0 1 2"},
            {"P 1 3 4;P 5 1 5;P 5 5 1;P 5 5 3;M 1 5 1", "0 1 2 0"}, {"P 1 3 4;P 5 1 3;P 1 1 4;P 1 5 1", "0 1 0 0 1 1"},
            {"P 1 3 4;P 5 1 3;P 4 1 4;P 5 5 4;M 1 5 1", "0 1 0 1"}, {"P 1 3 5;M 1 1 4", "0 2"},
            {"P 1 3 4;P 1 1 3;P 5 4 4;M 1 1 5", "0 1 0"}, {"P 1 3 3;P 1 1 1;P 1 1 3;P 5 3 3;M 1 1 5", "0 0 0"},
        };
        for (String[] row : rows) {
            Reifytown again = new Reifytown();
            again.addKind('c', false, '=', '-');
            for (int i = 0; i < 3; i++) {
                again.addMethod(0, i, 'v', body(again, "= 2 " + i, "p 2"));
            }
            again.type(0, -1);
            int b = body(again, begin);
            Checks.write(again, b, row[0].split(";"));
            Checks.write(again, b, "I 1 1 2");
            runs("15 row " + row[0], again, b, 0, "r0 " + row[1]);
            runs("15 row in another run " + row[0], again, b, 0, "r0 " + row[1]);
        }
        int two = body(town, begin);
        Checks.write(town, two, "P 1 3 4", "P 5 1 5", "P 4 1 4", "I 3 1 2", "I 3 5 2", "I 3 4 2");
        runs("15 rows stay as they are", town, two, 0, "r0 0 1 0 1 2 0 1 1");
    }

    private static void promise15Handlers() {
        Reifytown town = new Reifytown();
        town.addKind('c', false, '=', '-');
        int b = body(town, "x 1", "r 1", "p 5", "= 2 1", "r 2", "= 2 2", "r 2");
        town.addRegion(b, 0, 0, 'c', 7, 2);
        town.addRegion(b, 0, 1, 'c', -1, 5);
        runs("15 by its number", town, b, 7, "rn1 7");
        runs("15 by all", town, b, 8, "rn2");
        int outer = body(town, "N 2 2", "C 3 2 0 1", "r 3", "r 5");
        town.addRegion(outer, 1, 1, 'c', -1, 3);
        int inner = body(town, "x 1", "r 5");
        town.addRegion(inner, 0, 0, 'c', 5, 1);
        town.addMethod(0, 0, 'v', inner);
        town.type(0, -1);
        runs("15 handled inside", town, outer, 5, "rn5");
        runs("15 handled outside", town, outer, 6, "rn6");
        int handlers = body(town, "x 1", "e", "x 1", "r 5");
        town.addRegion(handlers, 0, 0, 'c', -1, 2);
        runs("15 a handler is not within", town, handlers, 4, "u4");
        int first = body(town, "x 1", "= 2 1", "r 2", "= 2 2", "r 2");
        town.addRegion(first, 0, 0, 'c', -1, 1);
        town.addRegion(first, 0, 0, 'c', 4, 3);
        runs("15 the first in order", town, first, 4, "rn1");
        int minus = body(town, "x 1", "r 5");
        town.addRegion(minus, 0, 0, 'c', -1, 1);
        runs("15 all, -1 too", town, minus, -1, "rn-1");
        int end = body(town, "x 1");
        town.addRegion(end, 0, 0, 'c', -1, 23);
        runs("15 a handler behind the end", town, end, 4, "r0");
    }

    private static void promise15Filters() {
        Reifytown town = new Reifytown();
        town.addKind('s', false, '=', '-');
        int seven = body(town, "p 1", "= 2 7", "? 3 1 2", "r 3");
        int failing = body(town, "p 1", "x 1");
        int changing = body(town, "! 1 0 0", "= 2 0", "r 2");
        int outer = body(town, "N 2 2", "C 3 2 0 1", "e", "p 5", ". 3 2 0", "r 3");
        town.addRegion(outer, 1, 1, 'w', seven, 3);
        int inner = body(town, "x 1", "e", "= 4 55", "p 4", "e");
        town.addRegion(inner, 0, 0, 'w', changing, 1);
        town.addRegion(inner, 0, 0, 'f', 0, 2);
        town.addMethod(0, 0, 'v', inner);
        town.type(0, -1);
        runs("15 filter ahead of what is left", town, outer, 7, "rn7 7 55 7");
        Checks.same("25 filters are calls", town.calls(), 3);
        Checks.same("24 without pieces", town.pieces(), 1);
        runs("15 filter says no", town, outer, 6, "u6 6");
        Checks.same("27 nothing is done", town.finals(), 0);
        int throwing = body(town, "x 1", "r 1", "r 5");
        town.addRegion(throwing, 0, 0, 'w', failing, 1);
        town.addRegion(throwing, 0, 0, 'c', 4, 2);
        runs("15 a filter that throws", town, throwing, 4, "rn4 4");
        int cleaning = body(town, "x 1", "e", "= 4 66", "p 4", "e");
        town.addRegion(cleaning, 0, 0, 'f', 0, 2);
        int asked = body(town, "x 1", "r 1", "r 5");
        town.addRegion(asked, 0, 0, 'w', cleaning, 1);
        town.addRegion(asked, 0, 0, 'c', -1, 2);
        runs("15 what a filter does at last", town, asked, 4, "rn4 66");
        int nothing = body(town, "x 1", "r 1", "r 5");
        int empty = body(town);
        town.addRegion(nothing, 0, 0, 'w', empty, 1);
        runs("15 null is a no", town, nothing, 4, "u4");
        int types = body(town, "N 2 -1", "= 3 1", "+ 2 2 3", "r 2");
        int typed = body(town, "x 1", "= 2 3", "r 2");
        town.addRegion(typed, 0, 0, 'w', types, 1);
        runs("15 the type of its call", town, typed, 4, "rn3");
    }

    private static void promise15AtLast() {
        Reifytown town = new Reifytown();
        int ret = body(town, "r 1", "e", "p 1", "e", "p 1", "e");
        town.addRegion(ret, 0, 0, 'f', 0, 2);
        town.addRegion(ret, 0, 1, 'f', 0, 4);
        runs("15 return", town, ret, 3, "rn3 3 3");
        Checks.same("27 two", town.finals(), 2);
        Checks.same("23 all steps", town.steps(), 5);
        int jump = body(town, "j 0 2", "e", "j 0 5", "p 1", "e", "r 1");
        town.addRegion(jump, 0, 2, 'f', 0, 3);
        runs("15 jump out", town, jump, 3, "rn3 3");
        Checks.same("27 not for the jump inside", town.finals(), 1);
        int zero = body(town, "z 1 4", "r 1", "p 1", "e", "r 1");
        town.addRegion(zero, 0, 0, 'f', 0, 2);
        runs("15 a jump by zero", town, zero, 0, "rn0 0");
        runs("15 no jump", town, zero, 1, "rn1");
        Checks.same("27 none", town.finals(), 0);
        int fall = body(town, "= 2 4", "p 2", "e", "r 2");
        town.addRegion(fall, 0, 0, 'f', 0, 1);
        runs("15 falling out", town, fall, 0, "rn4 4");
        Checks.same("27 none by falling", town.finals(), 0);
        int partly = body(town, "j 0 4", "e", "p 1", "e", "r 1", "= 2 9", "p 2", "e");
        town.addRegion(partly, 0, 1, 'f', 0, 2);
        town.addRegion(partly, 0, 4, 'f', 0, 5);
        runs("15 the one that is left", town, partly, 3, "rn3 3 9");
        int nested = body(town, "r 1", "e", "j 0 4", "p 1", "e", "p 1", "e", "r 3");
        town.addRegion(nested, 0, 0, 'f', 0, 2);
        town.addRegion(nested, 2, 2, 'f', 0, 5);
        runs("15 out of what is done at last", town, nested, 3, "rn3 3");
    }

    private static void promise15AtLastUnderThrow() {
        Reifytown town = new Reifytown();
        town.addKind('c', false, '=', '-');
        int inner = body(town, "x 1", "e", "= 2 1", "p 2", "e", "= 2 2", "p 2", "e");
        town.addRegion(inner, 0, 0, 'f', 0, 2);
        town.addRegion(inner, 0, 1, 'f', 0, 5);
        int middle = body(town, "C 2 0 0 1", "e", "= 2 3", "p 2", "e");
        town.addRegion(middle, 0, 0, 'f', 0, 2);
        town.addMethod(0, 0, 'v', inner);
        town.addMethod(0, 1, 'v', middle);
        town.type(0, -1);
        int outer = body(town, "N 2 2", "C 3 2 1 1", "e", "p 5", "r 5", "= 4 4", "p 4", "e", "= 4 5", "p 4", "e");
        town.addRegion(outer, 0, 1, 'f', 0, 5);
        town.addRegion(outer, 0, 1, 'c', -1, 3);
        town.addRegion(outer, 0, 1, 'f', 0, 8);
        runs("15 from the step out to the handler", town, outer, 9, "rn9 1 2 3 4 9");
        Checks.same("27 four", town.finals(), 4);
        int unhandled = body(town, "N 2 2", "C 3 2 1 1");
        runs("15 nothing without a handler", town, unhandled, 9, "u9");
        Checks.same("27 none", town.finals(), 0);
        int ahead = body(town, "x 1", "e", "p 5", "r 5", "= 4 4", "p 4", "e");
        town.addRegion(ahead, 0, 0, 'c', -1, 2);
        town.addRegion(ahead, 0, 2, 'f', 0, 4);
        runs("15 the order ends at the handler", town, ahead, 9, "rn9 9");
    }

    private static void promise15AtLastTakenOver() {
        Reifytown town = new Reifytown();
        town.addKind('c', false, '=', '-');
        int swallow = body(town, "x 1", "e", "= 2 1", "r 2");
        town.addRegion(swallow, 0, 0, 'f', 0, 2);
        int another = body(town, "x 1", "e", "= 2 99", "x 2");
        town.addRegion(another, 0, 0, 'f', 0, 2);
        int falls = body(town, "x 1", "e", "p 1");
        town.addRegion(falls, 0, 0, 'f', 0, 2);
        town.addMethod(0, 0, 'v', swallow);
        town.addMethod(0, 1, 'v', another);
        town.addMethod(0, 2, 'v', falls);
        town.type(0, -1);
        String[] due = {"rn1", "rn99", "r0 4"};
        for (int i = 0; i < 3; i++) {
            int outer = body(town, "N 2 2", "C 3 2 " + i + " 1", "r 3", "r 5");
            town.addRegion(outer, 1, 1, 'c', -1, 3);
            runs("15 taken over " + i, town, outer, 4, due[i]);
        }
        int inside = body(town, "r 1", "e", "x 1", "e", "p 5", "e", "= 2 8", "r 2");
        town.addRegion(inside, 0, 0, 'f', 0, 2);
        town.addRegion(inside, 2, 2, 'c', -1, 4);
        runs("15 handled inside, and all the same taken over", town, inside, 4, "rn8 4");
        int later = body(town, "r 1", "e", "p 1", "j 0 5", "x 1", "= 2 6", "p 2", "e", "x 1");
        town.addRegion(later, 0, 0, 'f', 0, 2);
        runs("15 the next e goes on", town, later, 4, "rn4 4 6");
        int twice = body(town, "r 1", "e", "= 2 5", "r 2", "p 1", "e");
        town.addRegion(twice, 0, 0, 'f', 0, 2);
        town.addRegion(twice, 3, 3, 'f', 0, 4);
        runs("15 return takes the place of a return", town, twice, 4, "rn5 4");
        int kept = body(town, "r 1", "e", "C 3 2 0 1", "p 1", "e");
        town.addRegion(kept, 0, 0, 'f', 0, 2);
        town.addRegion(kept, 2, 2, 'c', -1, 24 - 1);
        runs("15 thrown by what it calls", town, kept, 4, "r0");
    }

    private static void promise15AtLastKept() {
        Reifytown town = new Reifytown();
        town.addKind('c', false, '=', '-');
        town.type(0, -1);
        int noisy = body(town, "= 2 77", "x 2", "r 5");
        town.addRegion(noisy, 0, 1, 'c', -1, 2);
        town.addMethod(0, 0, 'v', noisy);
        int inner = body(town, "x 1", "e", "C 2 0 0 1", "p 2", "e");
        town.addRegion(inner, 0, 0, 'f', 0, 2);
        town.addMethod(0, 1, 'v', inner);
        int outer = body(town, "N 2 2", "C 3 2 1 1", "r 3", "r 5", "e", "= 2 -1", "r 2");
        town.addRegion(outer, 1, 1, 'c', 4, 3);
        town.addRegion(outer, 1, 1, 'c', -1, 5);
        runs("15 goes on after a throw of another call", town, outer, 4, "rn4 77");
        runs("15 goes on to its own handler", town, outer, 5, "rn-1 77");
        Checks.same("27 once", town.finals(), 1);
        int jumps = body(town, "r 1", "e", "C 4 5 0 1", "j 0 6", "p 1", "e", "e", "p 5", "e");
        town.addRegion(jumps, 0, 0, 'f', 0, 2);
        town.addRegion(jumps, 2, 2, 'c', -1, 6);
        runs("15 a null receiver at last", town, jumps, 8, "r0 1");
        int within = body(town, "r 1", "e", "j 0 6", "p 1", "e", "e", "= 2 3", "p 2", "e");
        town.addRegion(within, 0, 0, 'f', 0, 2);
        town.addRegion(within, 2, 2, 'f', 0, 3);
        runs("15 a jump at last within a return", town, within, 8, "rn8 8 3");
        Checks.same("27 both", town.finals(), 2);
    }

    private static void promise15EndOfBody() {
        Reifytown town = new Reifytown();
        int end = body(town, "j 0 3", "p 1", "e");
        town.addRegion(end, 3, 5, 'f', 0, 1);
        runs("15 the end of the body", town, end, 3, "r0 3");
        Checks.same("23 the end is a step", town.steps(), 4);
        Checks.same("27 at last", town.finals(), 1);
        int plain = body(town, "p 1");
        runs("15 a plain end", town, plain, 3, "r0 3");
        Checks.same("23 that is no step", town.steps(), 1);
        int round = body(town);
        town.addRegion(round, 0, 3, 'f', 0, 5);
        town.addRegion(round, 4, 6, 'f', 0, 2);
        runs("15 ends round and round", town, round, 3, "l");
        Checks.same("23 all steps", town.steps(), 1000);
        int back = body(town, "e");
        town.addRegion(back, 1, 3, 'f', 0, 0);
        runs("15 back into the body", town, back, 3, "r0");
        Checks.same("23 three", town.steps(), 3);
    }

    private static void promise15Statics() {
        Reifytown town = new Reifytown();
        town.addKind('c', true, '=', '-');
        town.addKind('i', false, '=', '-');
        int ready = body(town, "= 2 10", "s 2 2 0", "p 2", "d 3 -1", "s 3 2 1");
        int a = town.type(0, 0);
        int b = town.type(0, 1);
        int f = town.type(1, -1);
        runs("15 statics are 0", town, body(town, "S 2 " + f + " 0", "p 2", "s 1 " + f + " 0", "S 2 " + f + " 0", "p 2",
            "S 2 " + f + " 1", "r 2"), 6, "rn0 0 6");
        town.setReady(0, ready);
        runs("15 made ready", town, body(town, "S 2 " + a + " 0", "p 2", "S 2 " + a + " 1", "r 2"), 6, "rn0 10 10");
        Checks.same("25 one call", town.calls(), 1);
        Checks.same("24 no piece", town.pieces(), 0);
        Checks.same("23 its steps too", town.steps(), 9);
        runs("15 by a setting", town, body(town, "s 1 " + a + " 0", "S 2 " + a + " 0", "r 2"), 6, "rn6 10");
        runs("15 each type its own", town, body(town, "s 1 " + a + " 1", "S 2 " + a + " 1", "p 2", "S 2 " + b + " 0", "r 2"), 6,
            "rn0 10 6 10");
        runs("15 statics of int", town, body(town, "S 2 0 0"), 6, "u3");
        runs("15 statics of object", town, body(town, "s 1 1 0"), 6, "u3");
        runs("15 statics of no type", town, body(town, "S 2 44 0"), 6, "u3");
        int again = body(town, "S 2 " + b + " 0", "p 2", "s 1 " + b + " 0");
        runs("15 new statics", town, again, 3, "r0 10 10 0");
        runs("15 new statics again", town, again, 3, "r0 10 10 0");
    }

    private static void promise15StaticsSpoilt() {
        Reifytown town = new Reifytown();
        town.addKind('c', false, '=', '-');
        town.type(0, -1);
        int ready = body(town, "= 2 5", "s 2 2 0", "x 2", "e", "p 2", "e");
        town.addRegion(ready, 2, 2, 'f', 0, 4);
        town.setReady(0, ready);
        int use = body(town, "S 2 2 0", "e", "p 5", "S 2 2 1", "e", "r 5");
        town.addRegion(use, 0, 0, 'c', -1, 2);
        town.addRegion(use, 3, 3, 'c', 5, 5);
        runs("15 thrown by each use", town, use, 3, "rn5 5 5");
        Checks.same("25 called once", town.calls(), 1);
        Checks.same("27 done at last", town.finals(), 1);
        Checks.same("22 what was there", town.staticOf(2, 0), 5);
        runs("15 thrown, not handled", town, body(town, "S 2 2 0"), 3, "u5 5");
        int handled = body(town, "= 2 5", "x 2", "s 2 2 0");
        town.addRegion(handled, 1, 1, 'c', -1, 2);
        town.setReady(0, handled);
        runs("15 handled by itself", town, body(town, "S 2 2 0", "r 2"), 3, "rn5");
        int down = body(town, "C 2 0 0 1", "S 2 2 0");
        town.addMethod(0, 0, 'v', down);
        town.setReady(0, body(town, "p 1"));
        runs("15 no argument", town, body(town, "S 2 2 0"), 3, "u3");
        int deep = body(town, "N 2 2", "C 3 2 1 1", "r 3");
        int lower = body(town, "= 2 1", "- 1 1 2", "z 1 5", "C 3 0 1 1", "r 3", "S 3 2 0", "r 3");
        town.addMethod(0, 1, 'v', lower);
        town.setReady(0, body(town));
        runs("15 the twelfth call", town, deep, 10, "rn0");
        runs("15 the thirteenth call", town, deep, 11, "u6");
    }

    private static void promise15Limit() {
        alone("15 round", 1, "l", "j 0 0");
        Reifytown town = new Reifytown();
        int round = body(town, "p 1", "j 0 0");
        Checks.same("15 ends with l", town.run(round, 1), 'l');
        Checks.same("23 a thousand", town.steps(), 1000);
        Checks.same("20 outputs", town.outputs(), 500);
        Checks.missing("17 did not return", () -> town.returned());
        Checks.missing("19 nor throw", () -> town.unhandled());
        int exact = body(town, "= 2 1", "- 1 1 2", "z 1 4", "j 0 1", "e");
        runs("15 just a thousand", town, exact, 333, "r0");
        Checks.same("23 of 1000", town.steps(), 1000);
        runs("15 one more", town, exact, 334, "l");
        Checks.index("15 no body", () -> town.run(2, 0));
        Checks.index("15 negative body", () -> town.run(-1, 0));
        Checks.same("23 the last run stays", town.steps(), 1000);
        int all = body(town, "x 1");
        Checks.same("15 ends with u", town.run(all, 1), 'u');
        Checks.same("15 ends with r", town.run(body(town), 1), 'r');
    }

    private static void promise16Written() {
        Reifytown town = new Reifytown();
        town.addKind('i', false, '=', '-');
        town.addKind('c', false, '=', '-');
        town.addKind('c', true, '=', '-');
        town.addInterface(2, 0, -1);
        int empty = body(town);
        town.addMethod(2, 0, 'v', empty);
        town.addMethod(2, 1, 'v', empty);
        town.addMethod(1, 0, 'v', empty);
        town.tell(2, 0, 0, empty);
        int plain = town.type(1, -1);
        int ofObject = town.type(2, 1);
        int ofPlain = town.type(2, plain);
        int ofInt = town.type(2, 0);
        int shared = body(town, "N 2 " + ofObject, "C 3 2 20 1", "N 2 " + ofPlain, "C 3 2 20 1", "C 3 2 20 1");
        Checks.same("16 run", town.run(shared, 0), 'r');
        Checks.same("24 shared", town.pieces(), 1);
        Checks.same("29 share", town.pieceShare(), 1f / 3f);
        Checks.same("16 runWritten", town.runWritten(shared, 0), 'r');
        Checks.same("24 written out", town.pieces(), 2);
        Checks.same("29 share written out", town.pieceShare(), 2f / 3f);
        int values = body(town, "N 2 " + ofInt, "C 3 2 20 1", "N 2 " + ofObject, "C 3 2 20 1", "C 3 2 21 1", "N 2 " + plain,
            "C 3 2 10 1", "G 3 2 10 1");
        Checks.same("16 values have their own", town.run(values, 0), 'r');
        Checks.same("24 four", town.pieces(), 4);
        int told = body(town, "N 2 " + ofInt, "C 3 2 20 1", "C 3 2 0 1");
        Checks.same("16 told", town.run(told, 0), 'r');
        Checks.same("24 one name and one body", town.pieces(), 1);
        Checks.index("16 no body", () -> town.runWritten(9, 0));
        Checks.index("16 negative body", () -> town.runWritten(-1, 0));
        Checks.same("16 ends with u", town.runWritten(body(town, "x 1"), 5), 'u');
        Checks.same("19 unhandled", town.unhandled(), 5);
        Checks.same("16 ends with l", town.runWritten(body(town, "j 0 0"), 5), 'l');
    }

    private static void promise24Pieces() {
        Reifytown town = new Reifytown();
        town.addKind('c', true, '=', '-');
        town.addKind('s', true, '=', '-');
        int empty = body(town);
        int other = body(town);
        for (int name = 0; name < 3; name++) {
            town.addMethod(0, name, 'v', name == 2 ? other : empty);
            town.addMethod(1, name, 'v', empty);
        }
        int ofInt = town.type(0, 0);
        int ofObject = town.type(0, 1);
        int value = town.type(1, 0);
        int ofValue = town.type(0, value);
        int ofInts = town.type(0, ofInt);
        int names = body(town, "N 2 " + ofInt, "C 3 2 0 1", "C 3 2 1 1", "C 3 2 2 1", "N 2 " + value, "C 3 2 10 1",
            "C 3 2 11 1", "C 3 2 12 1", "C 3 2 12 1");
        town.run(names, 0);
        Checks.same("24 each name", town.pieces(), 6);
        Checks.same("25 each call", town.calls(), 7);
        int types = body(town, "N 2 " + ofInt, "C 3 2 0 1", "N 2 " + ofValue, "C 3 2 0 1", "N 2 " + ofObject, "C 3 2 0 1",
            "N 2 " + ofInts, "C 3 2 0 1");
        town.run(types, 0);
        Checks.same("24 references share", town.pieces(), 3);
        town.runWritten(types, 0);
        Checks.same("24 each type", town.pieces(), 4);
        int all = body(town, "N 2 " + ofInt, "C 3 2 0 1", "C 3 2 1 1", "N 2 " + ofObject, "C 3 2 0 1", "C 3 2 1 1",
            "N 2 " + ofValue, "G 3 2 0 1", "D 3 2 1", "I 4 3 1", "C 3 2 0 1");
        town.run(all, 0);
        Checks.same("24 names and types", town.pieces(), 6);
        Checks.same("29 share", town.pieceShare(), 1f);
        town.run(body(town, "N 2 " + ofInt, "G 3 2 0 1"), 0);
        Checks.same("24 of an iterator", town.pieces(), 1);
        Checks.arithmetic("29 without calls", () -> town.pieceShare());
        Checks.same("24 none is left", town.run(empty, 0), 'r');
        Checks.same("24 none", town.pieces(), 0);
    }

    private static void promise17To21Answers() {
        Reifytown town = new Reifytown();
        Checks.missing("17 no run", () -> town.returned());
        Checks.missing("18 no run", () -> town.number());
        Checks.missing("19 no run", () -> town.unhandled());
        Checks.same("20 no run", town.outputs(), 0);
        Checks.index("21 no run", () -> town.output(0));
        town.addKind('c', false, '=', '-');
        town.addMethod(0, 0, 'v', town.addBody());
        town.type(0, -1);
        town.addKind('s', false, '=', '-');
        town.type(1, -1);
        String[] makes = {"d 2 2", "= 2 7", "N 2 3", "N 2 2", "B 2 1", "D 2 1 0", "G 2 3 0 1"};
        for (int i = 0; i < makes.length; i++) {
            int b = body(town, "N 3 2", makes[i], "p 1", "r 2");
            town.run(b, 4);
            Checks.same("17 " + makes[i], town.returned(), "0nsobdi".charAt(i));
            if (i == 1) {
                Checks.same("18 number", town.number(), 7);
            } else {
                Checks.missing("18 " + makes[i], () -> town.number());
            }
            Checks.missing("19 " + makes[i], () -> town.unhandled());
        }
        Checks.same("20 one", town.outputs(), 1);
        Checks.same("21 first", town.output(0), 4);
        Checks.index("21 no place", () -> town.output(1));
        Checks.index("21 negative place", () -> town.output(-1));
        town.run(body(town, "x 1"), -3);
        Checks.missing("17 thrown", () -> town.returned());
        Checks.missing("18 thrown", () -> town.number());
        Checks.same("19 thrown", town.unhandled(), -3);
        Checks.same("20 of the last run alone", town.outputs(), 0);
    }

    private static void promise22StaticOf() {
        Reifytown town = new Reifytown();
        town.addKind('c', false, '=', '-');
        town.type(0, -1);
        Checks.index("22 no type", () -> town.staticOf(3, 0));
        Checks.index("22 index ahead of argument", () -> town.staticOf(-1, 2));
        Checks.argument("22 no static", () -> town.staticOf(2, 2));
        Checks.argument("22 argument ahead of none", () -> town.staticOf(0, -1));
        Checks.missing("22 no run", () -> town.staticOf(2, 0));
        town.run(body(town, "s 1 2 1", "N 3 2", "s 3 2 0"), 12);
        Checks.same("22 a number", town.staticOf(2, 1), 12);
        Checks.missing("22 an object", () -> town.staticOf(2, 0));
        Checks.missing("22 int", () -> town.staticOf(0, 0));
        Checks.missing("22 object", () -> town.staticOf(1, 0));
        town.addKind('i', false, '=', '-');
        Checks.same("22 made since", town.staticOf(town.type(1, -1), 1), 0);
        town.run(body(town, "x 1"), 12);
        Checks.same("22 a new run", town.staticOf(2, 1), 0);
    }

    private static void promise23To30Counts() {
        Reifytown town = new Reifytown();
        Checks.arithmetic("29 no run", () -> town.pieceShare());
        Checks.arithmetic("30 no run", () -> town.meanSteps());
        town.addKind('c', false, '=', '-');
        town.addMethod(0, 0, 'v', body(town, "B 2 1", "B 3 1", "r 1"));
        town.type(0, -1);
        int two = body(town, "N 2 2", "C 3 2 0 1", "C 3 2 0 1", "r 3");
        int none = body(town, "B 2 1", "r 3");
        town.run(two, 0);
        Checks.same("23 steps", town.steps(), 10);
        Checks.same("24 pieces", town.pieces(), 1);
        Checks.same("25 calls", town.calls(), 2);
        Checks.same("26 boxes", town.boxes(), 4);
        Checks.same("27 finals", town.finals(), 0);
        Checks.same("28 allSteps", town.allSteps(), 10L);
        Checks.same("29 share", town.pieceShare(), 0.5f);
        Checks.same("30 mean", town.meanSteps(), 10.0);
        town.runWritten(none, 0);
        Checks.same("23 steps of the last", town.steps(), 2);
        Checks.same("24 pieces of the last", town.pieces(), 0);
        Checks.same("25 calls of the last", town.calls(), 0);
        Checks.same("26 boxes of the last", town.boxes(), 1);
        Checks.same("28 allSteps", town.allSteps(), 12L);
        Checks.arithmetic("29 no calls", () -> town.pieceShare());
        Checks.same("30 mean of two", town.meanSteps(), 6.0);
        Checks.same("31 the same", town.isSame(two, 0), true);
        Checks.same("28 not counted", town.allSteps(), 12L);
        Checks.same("30 not counted", town.meanSteps(), 6.0);
        Checks.same("26 the last stays", town.boxes(), 1);
        town.run(none, 0);
        Checks.same("30 mean of three", town.meanSteps(), 14.0 / 3.0);
    }

    private static void promise31IsSame() {
        Reifytown town = new Reifytown();
        town.addKind('c', true, '=', '-');
        int later = body(town, "T 2 1 2", "r 2", "N 3 -2", "p 1", "= 2 3", "r 2");
        town.addRegion(later, 0, 0, 'c', 3, 2);
        Checks.same("31 a type that the first way makes", town.isSame(later, 6), false);
        Checks.same("6 it stays", town.types(), 3);
        Checks.same("31 and then the same", town.isSame(later, 6), true);
        Checks.missing("31 no run", () -> town.returned());
        Checks.arithmetic("31 no run counted", () -> town.meanSteps());
        int put = body(town, "p 1", "x 1");
        town.run(put, 3);
        Checks.same("31 thrown", town.isSame(put, 8), true);
        Checks.same("31 round", town.isSame(body(town, "j 0 0"), 8), true);
        Checks.same("19 the last stays", town.unhandled(), 3);
        Checks.same("21 the last stays", town.output(0), 3);
        Checks.same("31 object", town.isSame(body(town, "N 2 2", "r 2"), 8), true);
        Checks.index("31 no body", () -> town.isSame(9, 8));
        Checks.index("31 negative body", () -> town.isSame(-1, 8));
        int fills = body(town, "s 1 2 0");
        town.run(fills, 5);
        town.isSame(put, 5);
        Checks.same("22 the last stays", town.staticOf(2, 0), 5);
    }

    /** The first way makes a type which the second way finds: they differ in one thing at a time. */
    private static void promise31Differences() {
        String[][] bodies = {
            {"end", "T 2 1 2", "r 2", "N 3 -2", "x 1"},
            {"number", "T 2 1 2", "j 0 5", "N 3 -2", "= 2 4", "r 2", "e", "r 2"},
            {"letter", "T 2 1 2", "j 0 4", "N 2 -2", "r 2", "e", "r 2"},
            {"thrown", "T 2 1 2", "j 0 5", "N 3 -2", "= 2 4", "x 2", "e", "x 2"},
            {"output", "T 2 1 2", "j 0 6", "N 3 -2", "= 2 4", "p 2", "r 1", "e", "p 2", "r 1"},
            {"outputs", "T 2 1 2", "j 0 6", "N 3 -2", "e", "p 1", "r 1", "e", "e", "r 1"},
            {"steps", "T 2 1 2", "r 1", "N 3 -2", "r 1"},
        };
        for (String[] b : bodies) {
            Reifytown town = new Reifytown();
            town.addKind('c', true, '=', '-');
            int made = body(town);
            Checks.write(town, made, java.util.Arrays.copyOfRange(b, 1, b.length));
            town.addRegion(made, 0, 0, 'c', 3, 2);
            Checks.same("31 other " + b[0], town.isSame(made, 6), false);
            Checks.same("31 then the same " + b[0], town.isSame(made, 6), true);
        }
    }

    /** What one object is asked for at the most: 512 calls, the dearest ones. */
    private static void manyCalls() {
        Reifytown town = new Reifytown();
        town.addKind('s', false, '=', '-');
        town.addKind('c', false, '=', '-');
        town.type(0, -1);
        town.type(1, -1);
        town.addMethod(1, 0, 'v', town.addBody());
        int dear = body(town, "N 2 3", "N 4 2", "! 2 4 0", "B 3 4", "G 5 2 10 1", "E 3 5 3", "D 3 2 10", "P 3 3 3",
            "I 3 3 1", "j 0 0");
        boolean isSame = true;
        for (int i = 0; i < 490; i++) {
            isSame &= town.isSame(dear, i);
        }
        Checks.same("31 many times", isSame, true);
    }
}
