import java.util.Arrays;
import java.util.NoSuchElementException;

/** A machine of kinds that live at running time; README.md tells how it is used. */
public final class Reifytown {
    private static final int MOST_KINDS = 10;
    private static final int MOST_OTHERS = 3;
    private static final int NAMES = 6;
    private static final int MOST_TYPES = 60;
    private static final int DEEPEST = 5;
    private static final int MOST_BODIES = 14;
    private static final int MOST_LINES = 24;
    private static final int MOST_REGIONS = 4;
    private static final int LOCALS = 6;
    private static final int FIELDS = 3;
    private static final int STATICS = 2;
    private static final int MOST_STEPS = 1000;
    private static final int MOST_CALLS = 12;
    // A step makes at most one object, box, structure, target, delegate or iterator.
    private static final int MOST_THINGS = MOST_STEPS + 1;
    private static final int BUCKETS = 1024;

    // Far more turns than 1000 steps, and the ends of bodies between them, can take.
    private static final int MOST_TURNS = 1000000;

    private static final int INT = 0;
    private static final int OBJECT = 1;
    private static final int NONE = -1;
    private static final int OWN = -2;
    private static final int MISSING = -3;

    // Each op with what its numbers a, b, c and d are: l local, f field, t static, p place, k kind and name.
    private static final int OP_WIDTH = 5;
    private static final String OPS =
        "=l---:ll--+lll--lll-<lll-?lll-j-p--zlp--Nl---dl---.llf-!llf-Bll--Ull--Tll--CllklGllklElll-Ql---yl---Sl-t-sl-t-Dllk-Plll-Mlll-Illl-xl---rl---e----pl---";

    // The exceptions of code.
    private static final int FAULT_NULL = 1;
    private static final int FAULT_UNBOX = 2;
    private static final int FAULT_WRONG = 3;
    private static final int FAULT_NO_BODY = 4;
    private static final int FAULT_ITERATOR = 5;
    private static final int FAULT_LIMIT = 6;

    // A value of code is a long: what it is above, and its number or its place in a store below.
    private static final int NIL = 0;
    private static final int NUMBER = 1;
    private static final int STRUCTURE = 2;
    private static final int THING = 3;
    private static final int BOX = 4;
    private static final int DELEGATE = 5;
    private static final int ITERATOR = 6;
    private static final String LETTERS = "0nsobdi";
    private static final long NULL = 0L;
    private static final long ZERO = 1L << 32;

    // How a step, or a call, went on.
    private static final int GO_ON = 0;
    private static final int NEXT = 1;
    private static final int THROW = 2;
    private static final int UNWIND = 3;
    private static final int LEFT = 4;
    private static final int RETURNED = 5;
    private static final int GAVE = 6;
    private static final int UNHANDLED = 7;
    private static final int LIMIT = 8;

    private final Plan plan = new Plan();
    private final Machine machine = new Machine(plan);
    private final Outcome last = new Outcome();
    private final Outcome shared = new Outcome();
    private final Outcome writtenOut = new Outcome();
    private long stepsOfAll = 0;
    private int runCount = 0;

    public Reifytown() {
    }

    // ---- kinds and types

    public int addKind(char letter, boolean hasParameter, char variance, char limit)
            throws IllegalArgumentException, IllegalStateException {
        boolean isLetter = letter == 'c' || letter == 's' || letter == 'i';
        boolean isVariance = variance == '=' || (variance == '+' || variance == '-') && letter == 'i' && hasParameter;
        boolean isLimit = limit == '-' || (limit == 'v' || limit == 'r') && hasParameter;
        if (!isLetter || !isVariance || !isLimit) {
            throw new IllegalArgumentException("no such letter, variance or limit");
        }
        if (plan.kindCount >= MOST_KINDS) {
            throw new IllegalStateException("there are 10 kinds");
        }
        int index = plan.kindCount;
        plan.kinds[index] = new Kind(index, letter, hasParameter, variance, limit);
        plan.kindCount++;
        return index;
    }

    public int setParent(int kind, int parent, int argument) throws IndexOutOfBoundsException,
            IllegalArgumentException, UnsupportedOperationException, IllegalStateException {
        if (!plan.hasKind(kind) || !plan.hasKind(parent) || !isTold(argument)) {
            throw new IndexOutOfBoundsException("no such kind or type");
        }
        Kind child = plan.kinds[kind];
        Kind above = plan.kinds[parent];
        if (child.letter != 'c' || above.letter != 'c' || !canLieBelow(child, above, argument)) {
            throw new IllegalArgumentException("no such parent");
        }
        if (!isAllowed(child, above, argument)) {
            throw new UnsupportedOperationException("the limit of the parent");
        }
        if (child.parent != null || child.isTyped) {
            throw new IllegalStateException("it has a parent or a type");
        }
        child.parent = above;
        child.parentArgument = argument;
        int children = 0;
        for (int i = 0; i < plan.kindCount; i++) {
            if (plan.kinds[i].parent == above) {
                children++;
            }
        }
        return children;
    }

    public int addInterface(int kind, int other, int argument) throws IndexOutOfBoundsException,
            IllegalArgumentException, UnsupportedOperationException, IllegalStateException {
        if (!plan.hasKind(kind) || !plan.hasKind(other) || !isTold(argument)) {
            throw new IndexOutOfBoundsException("no such kind or type");
        }
        Kind child = plan.kinds[kind];
        Kind above = plan.kinds[other];
        if (above.letter != 'i' || !canLieBelow(child, above, argument)) {
            throw new IllegalArgumentException("no such interface");
        }
        if (!isAllowed(child, above, argument)) {
            throw new UnsupportedOperationException("the limit of the interface");
        }
        if (child.otherCount >= MOST_OTHERS || child.hasOther(above) || child.isTyped) {
            throw new IllegalStateException("it has 3 interfaces, this one, or a type");
        }
        child.others[child.otherCount] = above;
        child.otherArguments[child.otherCount] = argument;
        child.otherCount++;
        return child.otherCount;
    }

    public int type(int kind, int argument) throws IndexOutOfBoundsException, IllegalArgumentException,
            UnsupportedOperationException, IllegalStateException {
        if (!plan.hasKind(kind) || argument != NONE && !plan.hasType(argument)) {
            throw new IndexOutOfBoundsException("no such kind or type");
        }
        Kind made = plan.kinds[kind];
        if (made.hasParameter == (argument == NONE)) {
            throw new IllegalArgumentException("an argument just if there is no parameter");
        }
        if (argument != NONE && !plan.allows(made.limit, argument)) {
            throw new UnsupportedOperationException("the limit of the parameter");
        }
        int type = plan.makeType(made, argument);
        if (type == NONE) {
            throw new IllegalStateException("too many types, or too deep");
        }
        return type;
    }

    public int types() {
        return plan.typeCount;
    }

    public boolean isBelow(int type, int other) throws IndexOutOfBoundsException {
        if (!plan.hasType(type) || !plan.hasType(other)) {
            throw new IndexOutOfBoundsException("no such type");
        }
        return plan.fits(type, other);
    }

    // ---- methods and code

    public int addMethod(int kind, int name, char letter, int body) throws IndexOutOfBoundsException,
            IllegalArgumentException, UnsupportedOperationException, IllegalStateException {
        boolean isBody = letter == 'a' ? body == NONE : plan.hasBody(body);
        if (!plan.hasKind(kind) || !isBody) {
            throw new IndexOutOfBoundsException("no such kind or body");
        }
        Kind owner = plan.kinds[kind];
        if (!isName(name) || !owner.takesMethod(letter)) {
            throw new IllegalArgumentException("no such name or letter");
        }
        if (letter == 'o' && !owner.hasSlotAbove(name)) {
            throw new UnsupportedOperationException("no slot above");
        }
        if (owner.methodLetters[name] != 0) {
            throw new IllegalStateException("it has a method of this name");
        }
        owner.methodLetters[name] = letter;
        owner.methodBodies[name] = body;
        owner.methodCount++;
        return owner.methodCount;
    }

    public int tell(int kind, int other, int name, int body) throws IndexOutOfBoundsException,
            IllegalArgumentException, UnsupportedOperationException, IllegalStateException {
        if (!plan.hasKind(kind) || !plan.hasKind(other) || !plan.hasBody(body)) {
            throw new IndexOutOfBoundsException("no such kind or body");
        }
        if (!isName(name) || plan.kinds[other].letter != 'i') {
            throw new IllegalArgumentException("no such name or interface");
        }
        if ((plan.interfacesOf(kind) >> other & 1) == 0) {
            throw new UnsupportedOperationException("it does not have the interface");
        }
        Kind owner = plan.kinds[kind];
        int place = other * NAMES + name;
        if (owner.told[place] != NONE) {
            throw new IllegalStateException("it tells one already");
        }
        owner.told[place] = body;
        owner.toldCount++;
        return owner.toldCount;
    }

    public int setReady(int kind, int body) throws IndexOutOfBoundsException {
        if (!plan.hasKind(kind) || body != NONE && !plan.hasBody(body)) {
            throw new IndexOutOfBoundsException("no such kind or body");
        }
        Kind owner = plan.kinds[kind];
        int before = owner.ready;
        owner.ready = body;
        return before;
    }

    public int addBody() throws IllegalStateException {
        if (plan.bodyCount >= MOST_BODIES) {
            throw new IllegalStateException("there are 14 bodies");
        }
        plan.bodies[plan.bodyCount] = new Body();
        plan.bodyCount++;
        return plan.bodyCount - 1;
    }

    public int addStep(int body, char op, int a, int b, int c, int d)
            throws IndexOutOfBoundsException, IllegalArgumentException, IllegalStateException {
        if (!plan.hasBody(body)) {
            throw new IndexOutOfBoundsException("no such body");
        }
        int place = placeOfOp(op);
        if (place == NONE || !isNumberFor(OPS.charAt(place + 1), a) || !isNumberFor(OPS.charAt(place + 2), b)
                || !isNumberFor(OPS.charAt(place + 3), c) || !isNumberFor(OPS.charAt(place + 4), d)) {
            throw new IllegalArgumentException("no such op, or a number out of range");
        }
        Body owner = plan.bodies[body];
        if (owner.stepCount >= MOST_LINES) {
            throw new IllegalStateException("it has 24 steps");
        }
        owner.addLine(op, a, b, c, d);
        return owner.stepCount - 1;
    }

    public int addRegion(int body, int first, int last, char letter, int number, int place)
            throws IndexOutOfBoundsException, IllegalArgumentException, IllegalStateException {
        if (!plan.hasBody(body) || letter == 'w' && !plan.hasBody(number)) {
            throw new IndexOutOfBoundsException("no such body or filter");
        }
        boolean isLetter = letter == 'f' || letter == 'c' || letter == 'w';
        boolean isRange = first >= 0 && last >= first && last < MOST_LINES;
        boolean isPlace = place >= 0 && place < MOST_LINES && (place < first || place > last);
        if (!isLetter || !isRange || !isPlace) {
            throw new IllegalArgumentException("no such letter or place");
        }
        Body owner = plan.bodies[body];
        if (owner.regionCount >= MOST_REGIONS) {
            throw new IllegalStateException("it has 4 regions");
        }
        int index = owner.regionCount;
        owner.firsts[index] = first;
        owner.lasts[index] = last;
        owner.letters[index] = letter;
        owner.numbers[index] = number;
        owner.places[index] = place;
        owner.regionCount++;
        return owner.regionCount;
    }

    public int found(int type, int kind, int name) throws IndexOutOfBoundsException, IllegalArgumentException {
        if (!plan.hasType(type) || !plan.hasKind(kind)) {
            throw new IndexOutOfBoundsException("no such type or kind");
        }
        if (!isName(name)) {
            throw new IllegalArgumentException("no such name");
        }
        Kind receiver = plan.typeKinds[type];
        if (receiver == null || receiver.letter == 'i' || (plan.allAbove(receiver.index) >> kind & 1) == 0) {
            return NONE;
        }
        int method = plan.find(receiver, plan.kinds[kind], name);
        return method == NONE ? NONE : method % MOST_BODIES;
    }

    // ---- runs

    public char run(int body, int argument) throws IndexOutOfBoundsException {
        return runOnce(body, argument, false);
    }

    public char runWritten(int body, int argument) throws IndexOutOfBoundsException {
        return runOnce(body, argument, true);
    }

    public char returned() throws NoSuchElementException {
        if (last.end != 'r') {
            throw new NoSuchElementException("no run that returned");
        }
        return letterOf(last.value);
    }

    public int number() throws NoSuchElementException {
        if (last.end != 'r' || kindOf(last.value) != NUMBER) {
            throw new NoSuchElementException("no run that returned a number");
        }
        return restOf(last.value);
    }

    public int unhandled() throws NoSuchElementException {
        if (last.end != 'u') {
            throw new NoSuchElementException("no run that ended so");
        }
        return last.unhandled;
    }

    public int outputs() {
        return last.outputCount;
    }

    public int output(int index) throws IndexOutOfBoundsException {
        if (index < 0 || index >= last.outputCount) {
            throw new IndexOutOfBoundsException("no such place");
        }
        return last.output[index];
    }

    public int staticOf(int type, int index)
            throws IndexOutOfBoundsException, IllegalArgumentException, NoSuchElementException {
        if (!plan.hasType(type)) {
            throw new IndexOutOfBoundsException("no such type");
        }
        if (index < 0 || index >= STATICS) {
            throw new IllegalArgumentException("no such static");
        }
        long value = last.statics[type * STATICS + index];
        if (runCount == 0 || plan.typeKinds[type] == null || kindOf(value) != NUMBER) {
            throw new NoSuchElementException("no number there");
        }
        return restOf(value);
    }

    public int steps() {
        return last.stepCount;
    }

    public int pieces() {
        return last.pieceCount;
    }

    public int calls() {
        return last.callCount;
    }

    public int boxes() {
        return last.boxCount;
    }

    public int finals() {
        return last.finalCount;
    }

    public long allSteps() {
        return stepsOfAll;
    }

    public float pieceShare() throws ArithmeticException {
        if (last.callCount == 0) {
            throw new ArithmeticException("there were no calls");
        }
        return (float) last.pieceCount / last.callsAsFloat;
    }

    public double meanSteps() throws ArithmeticException {
        if (runCount == 0) {
            throw new ArithmeticException("there were no runs");
        }
        return (double) stepsOfAll / (double) runCount;
    }

    public boolean isSame(int body, int argument) throws IndexOutOfBoundsException {
        if (!plan.hasBody(body)) {
            throw new IndexOutOfBoundsException("no such body");
        }
        machine.perform(plan.bodies[body], argument, false, shared);
        machine.perform(plan.bodies[body], argument, true, writtenOut);
        return shared.tellsAs(writtenOut);
    }

    // ---- what stands behind the calls

    private char runOnce(int body, int argument, boolean isWritten) throws IndexOutOfBoundsException {
        if (!plan.hasBody(body)) {
            throw new IndexOutOfBoundsException("no such body");
        }
        machine.perform(plan.bodies[body], argument, isWritten, last);
        stepsOfAll += last.stepCount;
        runCount++;
        return last.end;
    }

    /** Whether it can be told as the argument of a parent or an interface, of whatever kind. */
    private boolean isTold(int argument) {
        return argument == NONE || argument == OWN || plan.hasType(argument);
    }

    private static boolean canLieBelow(Kind child, Kind above, int argument) {
        return above.index < child.index && above.hasParameter == (argument != NONE)
            && (argument != OWN || child.hasParameter);
    }

    private boolean isAllowed(Kind child, Kind above, int argument) {
        if (argument == OWN) {
            return above.limit == '-' || above.limit == child.limit;
        }
        return argument == NONE || plan.allows(above.limit, argument);
    }

    private static boolean isName(int name) {
        return name >= 0 && name < NAMES;
    }

    private static int placeOfOp(char op) {
        for (int i = 0; i + OP_WIDTH <= OPS.length(); i += OP_WIDTH) {
            if (OPS.charAt(i) == op) {
                return i;
            }
        }
        return NONE;
    }

    private static boolean isNumberFor(char what, int number) {
        switch (what) {
            case 'l':
                return number >= 0 && number < LOCALS;
            case 'f':
                return number >= 0 && number < FIELDS;
            case 't':
                return number >= 0 && number < STATICS;
            case 'p':
                return number >= 0 && number <= MOST_LINES;
            case 'k':
                return number >= 0 && number < MOST_KINDS * 10 && number % 10 < NAMES;
            default:
                return true;
        }
    }

    // ---- values of code

    private static long valueOf(int kind, int rest) {
        return (long) kind << 32 | rest & 0xFFFFFFFFL;
    }

    private static long ofNumber(int number) {
        return valueOf(NUMBER, number);
    }

    private static int kindOf(long value) {
        return (int) (value >>> 32);
    }

    private static int restOf(long value) {
        return (int) value;
    }

    private static char letterOf(long value) {
        int kind = kindOf(value);
        return kind >= 0 && kind < LETTERS.length() ? LETTERS.charAt(kind) : '0';
    }

    /** A kind as it was told: what lies above it, its methods, and what it tells for interfaces. */
    private static final class Kind {
        final int index;
        final char letter;
        final boolean hasParameter;
        final char variance;
        final char limit;
        Kind parent = null;
        int parentArgument = NONE;
        final Kind[] others = new Kind[MOST_OTHERS];
        final int[] otherArguments = new int[MOST_OTHERS];
        int otherCount = 0;
        boolean isTyped = false;
        final char[] methodLetters = new char[NAMES];
        final int[] methodBodies = new int[NAMES];
        int methodCount = 0;
        final int[] told = new int[MOST_KINDS * NAMES];
        int toldCount = 0;
        int ready = NONE;

        Kind(int index, char letter, boolean hasParameter, char variance, char limit) {
            this.index = index;
            this.letter = letter;
            this.hasParameter = hasParameter;
            this.variance = variance;
            this.limit = limit;
            Arrays.fill(told, NONE);
        }

        boolean hasOther(Kind other) {
            for (int i = 0; i < otherCount; i++) {
                if (others[i] == other) {
                    return true;
                }
            }
            return false;
        }

        boolean takesMethod(char method) {
            if (letter == 'i') {
                return method == 'a' || method == 'd';
            }
            return method == 'v' || method == 'o' || method == 'n';
        }

        /** The nearest kind from here up with a method of this name, or null. */
        Kind nearest(int name) {
            for (Kind kind = this; kind != null; kind = kind.parent) {
                if (kind.methodLetters[name] != 0) {
                    return kind;
                }
            }
            return null;
        }

        boolean hasSlotAbove(int name) {
            Kind above = parent == null ? null : parent.nearest(name);
            return above != null && above.methodLetters[name] != 'n';
        }

        /** The kind that began the slot which the method here takes, or null if it takes none. */
        Kind slotOf(int name) {
            char method = methodLetters[name];
            if (method != 'v' && method != 'o') {
                return null;
            }
            for (Kind kind = this; kind != null; kind = kind.parent) {
                if (kind.methodLetters[name] == 'v') {
                    return kind;
                }
            }
            return null;
        }
    }

    /** The steps and regions of a body. */
    private static final class Body {
        final char[] ops = new char[MOST_LINES];
        final int[] as = new int[MOST_LINES];
        final int[] bs = new int[MOST_LINES];
        final int[] cs = new int[MOST_LINES];
        final int[] ds = new int[MOST_LINES];
        int stepCount = 0;
        final int[] firsts = new int[MOST_REGIONS];
        final int[] lasts = new int[MOST_REGIONS];
        final char[] letters = new char[MOST_REGIONS];
        final int[] numbers = new int[MOST_REGIONS];
        final int[] places = new int[MOST_REGIONS];
        int regionCount = 0;

        void addLine(char op, int a, int b, int c, int d) {
            if (stepCount < MOST_LINES) {
                ops[stepCount] = op;
                as[stepCount] = a;
                bs[stepCount] = b;
                cs[stepCount] = c;
                ds[stepCount] = d;
                stepCount++;
            }
        }

        boolean holds(int region, int place) {
            return place >= firsts[region] && place <= lasts[region];
        }

        /** Whether a call of it takes no step. */
        boolean isEmpty() {
            return stepCount == 0 && !isWatched(0);
        }

        /** Whether something is told at last for a step at this place. */
        boolean isWatched(int place) {
            for (int i = 0; i < regionCount; i++) {
                if (letters[i] == 'f' && holds(i, place)) {
                    return true;
                }
            }
            return false;
        }
    }

    /** The kinds, types and bodies that were told: which types lie below which, and which method a call finds. */
    private static final class Plan {
        final Kind[] kinds = new Kind[MOST_KINDS];
        int kindCount = 0;
        final Body[] bodies = new Body[MOST_BODIES];
        int bodyCount = 0;
        final Kind[] typeKinds = new Kind[MOST_TYPES];
        final int[] typeArguments = new int[MOST_TYPES];
        private final int[] typeDepths = new int[MOST_TYPES];
        int typeCount = 2;
        private final int[] questions = new int[MOST_TYPES * MOST_TYPES];
        private final boolean[] isAsked = new boolean[MOST_TYPES * MOST_TYPES];
        private int questionCount = 0;

        Plan() {
            Arrays.fill(typeArguments, NONE);
            Arrays.fill(typeDepths, 1);
        }

        boolean hasKind(int kind) {
            return kind >= 0 && kind < kindCount;
        }

        boolean hasBody(int body) {
            return body >= 0 && body < bodyCount;
        }

        /** The interfaces of a kind, its own and those through them, as bits. */
        int interfacesOf(int kind) {
            int found = directOthers(kinds[kind]);
            for (int i = kind - 1; i >= 0; i--) {
                if ((found >> i & 1) != 0) {
                    found |= directOthers(kinds[i]);
                }
            }
            return found;
        }

        /** The kind itself and all that lie above it over all ways, as bits. */
        int allAbove(int kind) {
            int found = 1 << kind;
            for (int i = kind; i >= 0; i--) {
                if ((found >> i & 1) != 0) {
                    Kind parent = kinds[i].parent;
                    found |= directOthers(kinds[i]) | (parent == null ? 0 : 1 << parent.index);
                }
            }
            return found;
        }

        private static int directOthers(Kind kind) {
            int found = 0;
            for (int i = 0; i < kind.otherCount; i++) {
                found |= 1 << kind.others[i].index;
            }
            return found;
        }

        /** The method that a call finds, as its kind times 14 plus its body, or NONE. */
        int find(Kind receiver, Kind kind, int name) {
            if (kind.letter != 'i') {
                return findBySlot(receiver, kind, name);
            }
            for (Kind at = receiver; at != null; at = at.parent) {
                int body = at.told[kind.index * NAMES + name];
                if (body != NONE) {
                    return at.index * MOST_BODIES + body;
                }
                if ((interfacesOf(at.index) >> kind.index & 1) != 0 && at.nearest(name) != null) {
                    return findBySlot(receiver, at, name);
                }
            }
            return findDefault(receiver, kind, name);
        }

        private int findBySlot(Kind receiver, Kind kind, int name) {
            Kind nearest = kind.nearest(name);
            if (nearest == null) {
                return NONE;
            }
            Kind slot = nearest.slotOf(name);
            if (slot == null) {
                return nearest.index * MOST_BODIES + nearest.methodBodies[name];
            }
            for (Kind at = receiver; at != null; at = at.parent) {
                if (at.slotOf(name) == slot) {
                    return at.index * MOST_BODIES + at.methodBodies[name];
                }
            }
            return NONE;
        }

        private int findDefault(Kind receiver, Kind kind, int name) {
            int above = allAbove(receiver.index);
            int candidates = 0;
            for (int i = 0; i < kindCount; i++) {
                if ((above >> i & 1) != 0 && defaultOf(kinds[i], kind, name) != NONE) {
                    candidates |= 1 << i;
                }
            }
            for (int i = 0; i < kindCount; i++) {
                if ((candidates >> i & 1) != 0 && (candidates & ~(interfacesOf(i) | 1 << i)) == 0) {
                    return i * MOST_BODIES + defaultOf(kinds[i], kind, name);
                }
            }
            return NONE;
        }

        /** The body that an interface has for a name of an interface, told or by default, or NONE. */
        private static int defaultOf(Kind owner, Kind kind, int name) {
            if (owner.letter != 'i') {
                return NONE;
            }
            if (owner == kind) {
                return owner.methodLetters[name] == 'd' ? owner.methodBodies[name] : NONE;
            }
            return owner.told[kind.index * NAMES + name];
        }

        /** The argument of the first type of a kind that is found in a type, MISSING if there is none. */
        static int argumentFor(Kind kind, int argument, Kind wanted) {
            return searchArgument(kind, argument, wanted);
        }

        /** All that lies above a kind has a lower number, so this goes at most 10 deep. */
        private static int searchArgument(Kind kind, int argument, Kind wanted) {
            if (kind == wanted) {
                return argument;
            }
            for (int i = 0; i < kind.otherCount; i++) {
                int found = searchArgument(kind.others[i], put(kind.otherArguments[i], argument), wanted);
                if (found != MISSING) {
                    return found;
                }
            }
            if (kind.parent == null) {
                return MISSING;
            }
            return searchArgument(kind.parent, put(kind.parentArgument, argument), wanted);
        }

        // ---- types

        boolean hasType(int type) {
            return type >= 0 && type < typeCount;
        }

        boolean isValue(int type) {
            return type == INT || typeKinds[type] != null && typeKinds[type].letter == 's';
        }

        boolean allows(char limit, int type) {
            return limit == '-' || isValue(type) == (limit == 'v');
        }

        /** The type of a kind with an argument, made if it is new, or NONE if it can't be. */
        int makeType(Kind kind, int argument) {
            for (int i = 0; i < typeCount; i++) {
                if (typeKinds[i] == kind && typeArguments[i] == argument) {
                    return i;
                }
            }
            int depth = argument == NONE ? 1 : typeDepths[argument] + 1;
            if (typeCount >= MOST_TYPES || depth > DEEPEST) {
                return NONE;
            }
            typeKinds[typeCount] = kind;
            typeArguments[typeCount] = argument;
            typeDepths[typeCount] = depth;
            kind.isTyped = true;
            typeCount++;
            return typeCount - 1;
        }

        /** The argument that was told for a parent or an interface, where a type has this own one. */
        static int put(int told, int own) {
            return told == OWN ? own : told;
        }

        /**
         * Whether a type is below another one. Variance can ask for the same pair in a ring, so each
         * pair is asked once, and there are at most 60 times 60.
         */
        boolean fits(int type, int other) {
            boolean answer = false;
            questionCount = 0;
            ask(type, other);
            for (int i = 0; i < questionCount && i < questions.length && !answer; i++) {
                answer = fitsNow(questions[i] / MOST_TYPES, questions[i] % MOST_TYPES);
            }
            for (int i = 0; i < questionCount; i++) {
                isAsked[questions[i]] = false;
            }
            return answer;
        }

        private void ask(int type, int other) {
            int question = type * MOST_TYPES + other;
            if (!isAsked[question]) {
                isAsked[question] = true;
                questions[questionCount] = question;
                questionCount++;
            }
        }

        private boolean fitsNow(int type, int other) {
            if (type == other || other == OBJECT) {
                return true;
            }
            return typeKinds[type] != null && climb(typeKinds[type], typeArguments[type], other);
        }

        /** All that lies above a kind has a lower number, so this goes at most 10 deep. */
        private boolean climb(Kind kind, int argument, int other) {
            if (kind == typeKinds[other]) {
                if (argument == typeArguments[other]) {
                    return true;
                }
                askByVariance(kind.variance, argument, typeArguments[other]);
            }
            for (int i = 0; i < kind.otherCount; i++) {
                if (climb(kind.others[i], put(kind.otherArguments[i], argument), other)) {
                    return true;
                }
            }
            return kind.parent != null && climb(kind.parent, put(kind.parentArgument, argument), other);
        }

        private void askByVariance(char variance, int argument, int other) {
            if (variance == '=' || isValue(argument) || isValue(other)) {
                return;
            }
            if (variance == '+') {
                ask(argument, other);
            } else {
                ask(other, argument);
            }
        }
    }

    /** The objects, structures and boxes of a run. A structure with the same fields is stored once. */
    private static final class Store {
        private final int[] objectTypes = new int[MOST_THINGS];
        private final long[] objectFields = new long[MOST_THINGS * FIELDS];
        private int objectCount = 0;
        private final int[] structureTypes = new int[MOST_THINGS];
        private final long[] structureFields = new long[MOST_THINGS * FIELDS];
        private final int[] nextInBucket = new int[MOST_THINGS];
        private final int[] buckets = new int[BUCKETS];
        private int structureCount = 0;
        private final long[] boxed = new long[MOST_THINGS];
        int boxCount = 0;

        void clear() {
            objectCount = 0;
            structureCount = 0;
            boxCount = 0;
            Arrays.fill(buckets, NONE);
        }

        long newObject(int type) {
            if (objectCount >= MOST_THINGS) {
                return NULL;
            }
            objectTypes[objectCount] = type;
            Arrays.fill(objectFields, objectCount * FIELDS, objectCount * FIELDS + FIELDS, ZERO);
            objectCount++;
            return valueOf(THING, objectCount - 1);
        }

        long box(long value) {
            if (boxCount >= MOST_THINGS) {
                return NULL;
            }
            boxed[boxCount] = value;
            boxCount++;
            return valueOf(BOX, boxCount - 1);
        }

        long inBox(int box) {
            return boxed[box];
        }

        void putInBox(int box, long value) {
            boxed[box] = value;
        }

        /**
         * The structure of a type with these fields. Each one is kept once, so that two structures
         * are the same just if their values are, however many lie within one another.
         */
        long structure(int type, long first, long second, long third) {
            int bucket = bucketOf(type, first, second, third);
            int i = buckets[bucket];
            for (int tries = 0; tries < structureCount && i >= 0; tries++) {
                int at = i * FIELDS;
                if (structureTypes[i] == type && structureFields[at] == first
                        && structureFields[at + 1] == second && structureFields[at + 2] == third) {
                    return valueOf(STRUCTURE, i);
                }
                i = nextInBucket[i];
            }
            if (structureCount >= MOST_THINGS) {
                return NULL;
            }
            int made = structureCount;
            structureTypes[made] = type;
            structureFields[made * FIELDS] = first;
            structureFields[made * FIELDS + 1] = second;
            structureFields[made * FIELDS + 2] = third;
            nextInBucket[made] = buckets[bucket];
            buckets[bucket] = made;
            structureCount++;
            return valueOf(STRUCTURE, made);
        }

        private static int bucketOf(int type, long first, long second, long third) {
            long mixed = ((type * 31L + first) * 31L + second) * 31L + third;
            int folded = (int) (mixed ^ mixed >>> 32);
            return (folded ^ folded >>> 16) & BUCKETS - 1;
        }

        /** The same structure with another value in a field. */
        long withField(long structure, int field, long value) {
            int made = restOf(structure);
            int at = made * FIELDS;
            return structure(structureTypes[made], field == 0 ? value : structureFields[at],
                field == 1 ? value : structureFields[at + 1], field == 2 ? value : structureFields[at + 2]);
        }

        static boolean hasFields(long value) {
            return kindOf(value) == THING || kindOf(value) == STRUCTURE;
        }

        long field(long owner, int field) {
            int at = restOf(owner) * FIELDS + field;
            return kindOf(owner) == THING ? objectFields[at] : structureFields[at];
        }

        void setObjectField(long object, int field, long value) {
            objectFields[restOf(object) * FIELDS + field] = value;
        }

        /** The type of a value, of an object, or of what is boxed; NONE if it has none. */
        int typeOf(long value) {
            long inside = kindOf(value) == BOX ? boxed[restOf(value)] : value;
            switch (kindOf(inside)) {
                case NUMBER:
                    return INT;
                case STRUCTURE:
                    return structureTypes[restOf(inside)];
                case THING:
                    return objectTypes[restOf(inside)];
                default:
                    return NONE;
            }
        }
    }

    /**
     * Numbers of targets, however large, since a row can be twice as long with each step: one less than LARGE
     * is told as itself, any other one as LARGE and the place of its digits.
     */
    private static final class Counts {
        private static final int DIGIT = 60;
        static final long LARGE = 1L << DIGIT;

        // Enough for what 1000 steps can double.
        private static final int DIGITS = 17;
        // The first places are for passing results, a few at a time; those behind are for what is stored.
        private static final int PASSING = 256;
        private static final int MOST_LARGE = 1 << 21;

        // More than the bits that a float tells.
        private static final int TOP_BITS = 40;
        private static final long MIXING = 0x9E3779B97F4A7C15L;

        private long[] digits = new long[0];
        private int passingCount = 0;
        private int storedCount = 0;
        // So many digits are kept of each number, and none has more.
        private int width = 1;

        void clear() {
            passingCount = 0;
            storedCount = 0;
            width = 1;
        }

        /** How many passing results there are. */
        int mark() {
            return passingCount;
        }

        /** Gives up the passing results that were made since there were so many. */
        void release(int mark) {
            passingCount = mark;
        }

        /** Gives up all these but one. */
        long keep(long count, int mark) {
            passingCount = mark;
            if (count < LARGE || count >= LARGE + PASSING) {
                return count;
            }
            System.arraycopy(digits, (int) (count - LARGE) * width, digits, mark * width, width);
            passingCount++;
            return LARGE + mark;
        }

        /** How many numbers are stored. */
        int stored() {
            return storedCount;
        }

        /** Gives up what was stored since there was so much. */
        void drop(int stored) {
            storedCount = stored;
        }

        /** Stores what may be a passing result. */
        long store(long count) {
            return count < LARGE + PASSING ? copy(count) : count;
        }

        /** Stores a number behind all others; it may be one that was given up, if no other took its place since. */
        long copy(long count) {
            int place = PASSING + storedCount;
            if (count < LARGE || place >= MOST_LARGE) {
                return count;
            }
            storedCount++;
            if (digits.length < (place + 1) * width) {
                digits = Arrays.copyOf(digits, 2 * (place + 1) * width);
            }
            System.arraycopy(digits, (int) (count - LARGE) * width, digits, place * width, width);
            return LARGE + place;
        }

        long plus(long one, long other) {
            if (one < LARGE && other < LARGE && one + other < LARGE) {
                return one + other;
            }
            int made = reserve();
            long sum = 0;
            for (int i = 0; i < width; i++) {
                sum += digit(one, i) + digit(other, i);
                digits[made * width + i] = sum & LARGE - 1;
                sum >>= DIGIT;
            }
            if (sum > 0 && width < DIGITS) {
                widen();
                digits[(made + 1) * width - 1] = sum;
            }
            return told(made);
        }

        /** One less another, which is not larger. */
        long minus(long one, long other) {
            if (one < LARGE) {
                return one - other;
            }
            int made = reserve();
            long left = 0;
            for (int i = 0; i < width; i++) {
                left += digit(one, i) - digit(other, i);
                digits[made * width + i] = left & LARGE - 1;
                left >>= DIGIT;
            }
            return told(made);
        }

        boolean isLess(long one, long other) {
            if (one < LARGE || other < LARGE) {
                return one < other;
            }
            int place = (int) (one - LARGE) * width;
            int otherPlace = (int) (other - LARGE) * width;
            int i = width - 1;
            while (i > 0 && digits[place + i] == digits[otherPlace + i]) {
                i--;
            }
            return digits[place + i] < digits[otherPlace + i];
        }

        boolean isEqual(long one, long other) {
            if (one < LARGE || other < LARGE) {
                return one == other;
            }
            int place = (int) (one - LARGE) * width;
            int otherPlace = (int) (other - LARGE) * width;
            int same = 0;
            while (same < width && digits[place + same] == digits[otherPlace + same]) {
                same++;
            }
            return same == width;
        }

        /** The same for equal numbers, and mostly another one for others. */
        long mixOf(long count) {
            if (count < LARGE) {
                return count;
            }
            long mixed = 0;
            for (int i = 0; i < width; i++) {
                mixed = mixed * MIXING + digit(count, i);
            }
            return mixed;
        }

        /** A number as an int, or the greatest int if it is larger. */
        int inInt(long count) {
            if (bitsOf(count) > 31) {
                return 0x7FFFFFFF;
            }
            int number = 0;
            for (int i = 30; i >= 0; i--) {
                number = number * 2 + bit(count, i);
            }
            return number;
        }

        /** A number as the float that is nearest to it. */
        float inFloat(long count) {
            int bits = bitsOf(count);
            int low = Math.max(0, bits - TOP_BITS);
            long top = 0;
            for (int i = bits - 1; i >= low; i--) {
                top = top * 2 + bit(count, i);
            }
            // What lies below counts as a half of the last bit, since it only tells apart what is in the middle.
            int below = 0;
            for (int i = 0; i < low; i++) {
                below |= bit(count, i);
            }
            float number = (float) (top * 2 + below) / 2;
            for (int i = 0; i < low; i++) {
                number *= 2;
            }
            return number;
        }

        private int bit(long count, int place) {
            return (int) (digit(count, place / DIGIT) >> place % DIGIT & 1);
        }

        private int bitsOf(long count) {
            int bits = count < LARGE ? DIGIT : DIGIT * width;
            while (bits > 0 && bit(count, bits - 1) == 0) {
                bits--;
            }
            return bits;
        }

        private long digit(long count, int index) {
            if (count < LARGE) {
                return index == 0 ? count : 0;
            }
            return index >= width ? 0 : digits[(int) (count - LARGE) * width + index];
        }

        /** The place of a new passing result. */
        private int reserve() {
            if (digits.length < PASSING * width) {
                digits = Arrays.copyOf(digits, PASSING * width);
            }
            if (passingCount < PASSING) {
                passingCount++;
            }
            return passingCount - 1;
        }

        /** Gives all numbers one more digit. */
        private void widen() {
            int count = PASSING + storedCount;
            int wider = width + 1;
            if (digits.length < count * wider) {
                digits = Arrays.copyOf(digits, 2 * count * wider);
            }
            for (int i = count - 1; i >= 0; i--) {
                System.arraycopy(digits, i * width, digits, i * wider, width);
                digits[i * wider + width] = 0;
            }
            width = wider;
        }

        /** A new passing result, which is none if it is less than LARGE. */
        private long told(int made) {
            int i = width - 1;
            while (i > 0 && digits[made * width + i] == 0) {
                i--;
            }
            if (i > 0) {
                return LARGE + made;
            }
            passingCount = made;
            return digits[made * width];
        }
    }

    /**
     * The delegates of a run. A row of targets is a tree of parts, since a row can be twice as long with
     * each step, and rows share their parts. A part is one target, or two parts with lower numbers.
     */
    private static final class Rows {
        private static final int FIRST_PARTS = 64;
        // 'P' and 'M' make one part that lies one deeper than the others.
        static final int DEEPEST_PART = MOST_STEPS;
        // 'P' makes one part, 'M' at most two for each depth.
        private static final int MOST_PARTS = 1 << 20;
        private static final long MIXING = 0x9E3779B97F4A7C15L;

        // What is known of a part: that its calls take no step, that its pieces were noted, or are to be.
        private static final int IDLE = 1;
        private static final int NOTED = 2;
        private static final int ASKED = 4;

        final Counts counts = new Counts();
        private final long[] receivers = new long[MOST_THINGS];
        private final int[] ways = new int[MOST_THINGS];
        private int targetCount = 0;
        private final int[] roots = new int[MOST_THINGS];
        private int rowCount = 0;
        private int[] lefts = new int[FIRST_PARTS];
        private int[] rights = new int[FIRST_PARTS];
        private long[] lengths = new long[FIRST_PARTS];
        private int[] marks = new int[FIRST_PARTS];
        private int partCount = 0;
        // The parts that are made of two, by these two: the last one in each slot, and the one ahead of each.
        private int[] slots = new int[FIRST_PARTS];
        private int[] nexts = new int[FIRST_PARTS];
        private final int[] kept = new int[DEEPEST_PART];

        void clear() {
            counts.clear();
            targetCount = 0;
            rowCount = 0;
            partCount = 0;
            Arrays.fill(slots, NONE);
        }

        // ---- delegates

        /** A delegate with one target of its own; it is idle if its call takes no step and throws nothing. */
        long single(long receiver, int way, boolean isIdle) {
            if (targetCount >= MOST_THINGS || !reserve()) {
                return NULL;
            }
            receivers[targetCount] = receiver;
            ways[targetCount] = way;
            targetCount++;
            return row(add(NONE, targetCount - 1, 1, isIdle ? IDLE : 0));
        }

        /** A new delegate with the targets of both. */
        long joined(long one, long other) {
            return row(join(rootOf(one), rootOf(other)));
        }

        /** A new delegate with the targets of a part, null for NONE. */
        long row(int root) {
            if (root == NONE || rowCount >= MOST_THINGS) {
                return NULL;
            }
            roots[rowCount] = root;
            rowCount++;
            return valueOf(DELEGATE, rowCount - 1);
        }

        /** The part with all targets of a delegate, NONE for null. */
        int rootOf(long delegate) {
            return kindOf(delegate) == DELEGATE ? roots[restOf(delegate)] : NONE;
        }

        // ---- targets

        long receiverOf(int target) {
            return receivers[target];
        }

        /** Changes a receiver, and so what its target is like. */
        void setReceiver(int target, long value) {
            receivers[target] = value;
        }

        int wayOf(int target) {
            return ways[target];
        }

        // ---- parts

        long lengthOf(int part) {
            return lengths[part];
        }

        /** The first of the two parts of a part, NONE if it is one target. */
        int leftOf(int part) {
            return lefts[part];
        }

        int rightOf(int part) {
            return rights[part];
        }

        /** The target that a part is, NONE if it is two parts. */
        int targetOf(int part) {
            return lefts[part] == NONE ? rights[part] : NONE;
        }

        boolean isIdle(int part) {
            return (marks[part] & IDLE) != 0;
        }

        boolean isBefore(long place, int part) {
            return counts.isLess(place, lengths[part]);
        }

        /** The place behind a part, as the one passing result since a mark. */
        long placeBehind(long place, int part, int mark) {
            return counts.keep(counts.plus(place, lengths[part]), mark);
        }

        /** The longest idle part, or else the one target, that begins in a part at a place. */
        int partAt(int whole, long place) {
            int mark = counts.mark();
            int part = whole;
            long ahead = place;
            for (int i = 0; i < DEEPEST_PART && lefts[part] >= 0 && (ahead > 0 || !isIdle(part)); i++) {
                int left = lefts[part];
                if (counts.isLess(ahead, lengths[left])) {
                    part = left;
                } else {
                    ahead = counts.keep(counts.minus(ahead, lengths[left]), mark);
                    part = rights[part];
                }
            }
            counts.release(mark);
            return part;
        }

        /** Whether a part ends with all of another one, as one of the parts that it is made of. */
        boolean hasAtEnd(int whole, int end) {
            int part = whole;
            for (int i = 0; i < DEEPEST_PART && part != end && lefts[part] >= 0; i++) {
                part = rights[part];
            }
            return part == end;
        }

        /** Asks for the pieces of a part; false if they were noted before. */
        boolean ask(int part) {
            if ((marks[part] & NOTED) != 0) {
                return false;
            }
            marks[part] |= ASKED;
            return true;
        }

        /** If a part was asked for: its target, which is noted so; its own parts are asked for in its place. */
        int answer(int part) {
            if ((marks[part] & ASKED) == 0) {
                return NONE;
            }
            marks[part] = marks[part] & ~ASKED | NOTED;
            if (lefts[part] >= 0) {
                ask(lefts[part]);
                ask(rights[part]);
            }
            return targetOf(part);
        }

        // ---- parts of two others

        /** The part of two others, or the other one if one is NONE. */
        private int join(int left, int right) {
            if (left == NONE || right == NONE) {
                return left == NONE ? right : left;
            }
            int i = slots[slotOf(left, right)];
            for (int turn = 0; turn < partCount && i >= 0; turn++) {
                if (lefts[i] == left && rights[i] == right) {
                    return i;
                }
                i = nexts[i];
            }
            if (!reserve()) {
                return left;
            }
            int mark = counts.mark();
            long length = counts.store(counts.plus(lengths[left], lengths[right]));
            counts.release(mark);
            return add(left, right, length, marks[left] & marks[right] & IDLE);
        }

        private int slotOf(int left, int right) {
            return (int) ((left * MIXING + right) * MIXING >>> 33) & slots.length - 1;
        }

        private int add(int left, int right, long length, int mark) {
            int part = partCount;
            partCount++;
            lefts[part] = left;
            rights[part] = right;
            lengths[part] = length;
            marks[part] = mark;
            if (left >= 0) {
                putIntoSlot(part);
            }
            return part;
        }

        private void putIntoSlot(int part) {
            int slot = slotOf(lefts[part], rights[part]);
            nexts[part] = slots[slot];
            slots[slot] = part;
        }

        private boolean reserve() {
            if (partCount < lefts.length) {
                return true;
            }
            if (partCount >= MOST_PARTS) {
                return false;
            }
            int wanted = partCount * 2;
            lefts = Arrays.copyOf(lefts, wanted);
            rights = Arrays.copyOf(rights, wanted);
            lengths = Arrays.copyOf(lengths, wanted);
            marks = Arrays.copyOf(marks, wanted);
            nexts = new int[wanted];
            slots = new int[wanted];
            Arrays.fill(slots, NONE);
            for (int i = 0; i < partCount; i++) {
                if (lefts[i] >= 0) {
                    putIntoSlot(i);
                }
            }
            return true;
        }

        /** A part without so many targets that lie behind so many others; NONE if none is left. */
        int without(int whole, long ahead, long count) {
            int mark = counts.mark();
            int front = shorten(whole, counts.minus(lengths[whole], ahead), true);
            int back = shorten(whole, counts.plus(ahead, count), false);
            counts.release(mark);
            return join(front, back);
        }

        /** A part without so many of its targets, the last or the first ones. */
        private int shorten(int whole, long count, boolean isEnd) {
            int mark = counts.mark();
            int depth = 0;
            int part = whole;
            long less = count;
            for (int i = 0; i < kept.length && less > 0 && counts.isLess(less, lengths[part]); i++) {
                int shortened = isEnd ? rights[part] : lefts[part];
                int other = isEnd ? lefts[part] : rights[part];
                if (counts.isLess(less, lengths[shortened])) {
                    kept[depth] = other;
                    depth++;
                    part = shortened;
                } else {
                    less = counts.keep(counts.minus(less, lengths[shortened]), mark);
                    part = other;
                }
            }
            counts.release(mark);
            int rest = less > 0 ? NONE : part;
            for (int i = depth - 1; i >= 0; i--) {
                rest = isEnd ? join(kept[i], rest) : join(rest, kept[i]);
            }
            return rest;
        }
    }

    /**
     * The letters that rows are written with while one is looked for in another one. A letter stands for one target
     * or more; letters that are made alike are the same.
     */
    private static final class Letters {
        // What a letter is made of: a target; the one letter that it is named by, alone, in a run of nothing else, as
        // what is left of such a run, or ahead of a run; or this letter and another one behind it.
        static final int TARGET = 0;
        static final int ALONE = 1;
        static final int RUN = 2;
        static final int REST = 3;
        static final int AHEAD = 4;
        static final int PAIR = 5;
        private static final int MAKES = 6;

        // A left letter may be joined with a right one behind it.
        static final int NEITHER = 0;
        static final int LEFT = 1;
        static final int RIGHT = 2;

        private static final int FIRST_LETTERS = 64;
        private static final int FIRST_LINKS = 256;
        private static final long MIXING = 0x9E3779B97F4A7C15L;

        private final Counts counts;
        private int[] makes = new int[FIRST_LETTERS];
        private long[] keys = new long[FIRST_LETTERS];
        private long[] lengths = new long[FIRST_LETTERS];
        private int[] sides = new int[FIRST_LETTERS];
        private int count = 0;
        // The last letter in each slot, and the one ahead of each.
        private int[] slots = new int[FIRST_LETTERS];
        private int[] nexts = new int[FIRST_LETTERS];
        // Which letters stand side by side: what each letter has behind it, and, as ~, ahead of it.
        private int[] firstLinks = new int[FIRST_LETTERS];
        private int[] nextLinks = new int[FIRST_LINKS];
        private int[] others = new int[FIRST_LINKS];
        private double[] weights = new double[FIRST_LINKS];
        private int linkCount = 0;

        Letters(Counts counts) {
            this.counts = counts;
        }

        void clear() {
            count = 0;
            Arrays.fill(slots, NONE);
        }

        // ---- names

        /** The letter that is made so, or NONE; of runs, it is the one with this length. */
        int find(int base, int make, long key, long length) {
            int made = base * MAKES + make;
            int i = slots[slotOf(made, key)];
            for (int turn = 0; turn < count && i >= 0; turn++) {
                if (makes[i] == made && keys[i] == key && (make != RUN || counts.isEqual(lengths[i], length))) {
                    return i;
                }
                i = nexts[i];
            }
            return NONE;
        }

        /** The letter that is made so, which is a new one with this length if there is none. */
        int name(int base, int make, long key, long length) {
            int found = find(base, make, key, length);
            if (found != NONE) {
                return found;
            }
            if (count >= makes.length) {
                grow();
            }
            makes[count] = base * MAKES + make;
            keys[count] = key;
            lengths[count] = counts.copy(length);
            sides[count] = NEITHER;
            int slot = slotOf(makes[count], key);
            nexts[count] = slots[slot];
            slots[slot] = count;
            count++;
            return count - 1;
        }

        private int slotOf(int made, long key) {
            return (int) ((key * MIXING + made) * MIXING >>> 33) & slots.length - 1;
        }

        private void grow() {
            int wanted = count * 2;
            makes = Arrays.copyOf(makes, wanted);
            keys = Arrays.copyOf(keys, wanted);
            lengths = Arrays.copyOf(lengths, wanted);
            sides = Arrays.copyOf(sides, wanted);
            nexts = new int[wanted];
            firstLinks = new int[wanted];
            slots = new int[wanted];
            Arrays.fill(slots, NONE);
            for (int i = 0; i < count; i++) {
                int slot = slotOf(makes[i], keys[i]);
                nexts[i] = slots[slot];
                slots[slot] = i;
            }
        }

        /** The letter that a letter is named by. */
        int baseOf(int letter) {
            return makes[letter] / MAKES;
        }

        /** How many targets a letter stands for. */
        long lengthOf(int letter) {
            return lengths[letter];
        }

        /** Stores the lengths anew, one behind the other. */
        void storeLengths() {
            for (int i = 0; i < count; i++) {
                lengths[i] = counts.copy(lengths[i]);
            }
        }

        // ---- runs

        /** Whether a letter stands for a run of the same as another one, and for not less. */
        boolean isRunAs(int letter, int other) {
            return baseOf(letter) == baseOf(other) && !counts.isLess(lengths[letter], lengths[other]);
        }

        /** Whether some letter stands for a longer run of the same as another one. */
        boolean hasLongerRun(int other) {
            for (int i = 0; i < count; i++) {
                if (i != other && isRunAs(i, other)) {
                    return true;
                }
            }
            return false;
        }

        /** Makes the runs of what one letter has left letters, and those not shorter than another one right ones. */
        void setSides(int left, int right) {
            for (int i = 0; i < count; i++) {
                boolean isLeft = baseOf(i) == baseOf(left);
                setSide(i, isLeft ? LEFT : isRunAs(i, right) ? RIGHT : NEITHER);
            }
        }

        // ---- sides

        int sideOf(int letter) {
            return sides[letter];
        }

        void setSide(int letter, int side) {
            sides[letter] = side;
        }

        void forgetSides() {
            Arrays.fill(sides, 0, count, NEITHER);
            Arrays.fill(firstLinks, 0, count, NONE);
            linkCount = 0;
        }

        /** Tells that a letter stands ahead of another one, so often. */
        void addPair(int letter, int behind, double weight) {
            if (linkCount + 2 > others.length) {
                growLinks();
            }
            link(letter, behind, weight);
            link(behind, ~letter, weight);
        }

        private void growLinks() {
            int wanted = linkCount * 2;
            nextLinks = Arrays.copyOf(nextLinks, wanted);
            others = Arrays.copyOf(others, wanted);
            double[] oldWeights = weights;
            weights = new double[wanted];
            // One by one: the language has no function of the library for doubles.
            for (int i = 0; i < linkCount; i++) {
                weights[i] = oldWeights[i];
            }
        }

        private void link(int letter, int other, double weight) {
            others[linkCount] = other;
            weights[linkCount] = weight;
            nextLinks[linkCount] = firstLinks[letter];
            firstLinks[letter] = linkCount;
            linkCount++;
        }

        /**
         * Makes one letter a left one, another one a right one, and each other one what lets more of the pairs be
         * joined, if those that have no side yet get one by chance: so at least a quarter of all are.
         */
        void chooseSides(int left, int right) {
            sides[left] = LEFT;
            sides[right] = RIGHT;
            for (int i = 0; i < count; i++) {
                if (sides[i] == NEITHER) {
                    setSide(i, leaningOf(i) < 0 ? RIGHT : LEFT);
                }
            }
        }

        private double leaningOf(int letter) {
            double leaning = 0;
            int i = firstLinks[letter];
            for (int turn = 0; turn < linkCount && i >= 0; turn++) {
                boolean isBehind = others[i] >= 0;
                int side = sides[isBehind ? others[i] : ~others[i]];
                double weight = side == NEITHER ? weights[i] : side == (isBehind ? RIGHT : LEFT) ? weights[i] * 2 : 0;
                leaning = isBehind ? leaning + weight : leaning - weight;
                i = nextLinks[i];
            }
            return leaning;
        }
    }

    /**
     * Looks for the last place of a pattern in a row, however long both are, and takes it out. Both are written as
     * rules, which are what parts are: letters and rules with lower numbers. In rounds, all rules are written anew,
     * with one letter in place of a run or of a pair, so that targets that are alike get letters that are alike, until
     * one letter stands for the pattern. Where that lies in the row, the pattern does.
     */
    private static final class Search {
        private static final int FIRST_RULES = 64;
        // Where no items are, parts wait that are to be written.
        private static final int FIRST_ITEMS = 2 * Rows.DEEPEST_PART;
        // Two rounds make the pattern shorter by a quarter, so that far fewer are enough.
        private static final int MOST_ROUNDS = 1000000;
        private static final int MOST_WAITING = 1 << 24;
        private static final long NOWHERE = -1;

        // What is known of a part: nothing, or that it is written out where it stands.
        private static final int UNUSED = 0;
        private static final int WRITTEN_OUT = 1 << 31;

        private final Rows rows;
        private final Counts counts;
        private Letters letters;
        private Letters newLetters;
        // An item is a letter, or ~ the number of a rule. The last two rules are the row and the pattern.
        private int ruleCount = 0;
        private int[] starts = new int[FIRST_RULES];
        private int[] items = new int[FIRST_ITEMS];
        private int[] newStarts = new int[FIRST_RULES];
        private int[] newItems = new int[FIRST_ITEMS];
        private int written = 0;
        // The letters that a rule begins and ends with; while it is written, those that are left to where it stands.
        private int[] ends = new int[2 * FIRST_RULES];
        private long[] endRuns = new long[2 * FIRST_RULES];
        private double[] weights = new double[FIRST_RULES];
        private int[] codes = new int[FIRST_RULES];
        // The letter that waits for what comes behind it.
        private int held = NONE;
        private long heldRun = 0;
        // The letters of the pattern that are fitted to the row.
        private int first = NONE;
        private int last = NONE;
        private int mark = 0;
        private int stored = 0;

        Search(Rows rows) {
            this.rows = rows;
            counts = rows.counts;
            letters = new Letters(counts);
            newLetters = new Letters(counts);
        }

        /** What 'M' makes of two delegates: the first one, if it has no row of targets like those of the other one. */
        long without(long one, long other) {
            int row = rows.rootOf(one);
            int less = rows.rootOf(other);
            if (row == NONE || less == NONE || counts.isLess(rows.lengthOf(row), rows.lengthOf(less))) {
                return one;
            }
            mark = counts.mark();
            stored = counts.stored();
            long ahead = NOWHERE;
            boolean isOver = rows.hasAtEnd(row, less);
            if (isOver) {
                ahead = counts.minus(rows.lengthOf(row), rows.lengthOf(less));
            } else {
                begin(row, less);
            }
            for (int round = 0; round < MOST_ROUNDS && !isOver && hasAllLetters(); round++) {
                findRuns();
                writeRuns();
                isOver = isPatternOneLetter();
                if (isOver) {
                    ahead = placeOfRun();
                    continue;
                }
                if (mustFitEnds()) {
                    writeAnew();
                }
                chooseSides(round % 2 == 0);
                writeAnew();
            }
            counts.drop(stored);
            long made = ahead == NOWHERE ? one : rows.row(rows.without(row, ahead, rows.lengthOf(less)));
            counts.release(mark);
            return made;
        }

        // ---- the first rules

        private void begin(int row, int pattern) {
            int top = Math.max(row, pattern);
            if (codes.length <= top) {
                codes = new int[top * 2];
            }
            makeRuleRoom(countUses(row, pattern) + 2);
            newLetters.clear();
            ruleCount = 0;
            written = 0;
            for (int i = 0; i <= top; i++) {
                if (codes[i] != UNUSED) {
                    codes[i] = codeOf(i);
                }
            }
            items[0] = row;
            writeRule(1);
            items[0] = pattern;
            writeRule(1);
            closePass();
        }

        /** Counts how often each part is used, and how many are made of two and used more than once. */
        private int countUses(int row, int pattern) {
            int top = Math.max(row, pattern);
            int count = 0;
            Arrays.fill(codes, 0, top + 1, UNUSED);
            codes[row]++;
            codes[pattern]++;
            for (int i = top; i >= 0; i--) {
                if (codes[i] != UNUSED && rows.leftOf(i) >= 0) {
                    codes[rows.leftOf(i)]++;
                    codes[rows.rightOf(i)]++;
                    count += codes[i] > 1 ? 1 : 0;
                }
            }
            return count;
        }

        /** What is written for a part: its letter, or the rule that is written for it if it is used more than once. */
        private int codeOf(int part) {
            int target = rows.targetOf(part);
            if (target >= 0) {
                return newLetters.name(rows.wayOf(target), Letters.TARGET, rows.receiverOf(target), 1);
            }
            if (codes[part] == 1) {
                return WRITTEN_OUT;
            }
            items[0] = rows.rightOf(part);
            items[1] = rows.leftOf(part);
            writeRule(2);
            return ~(ruleCount - 1);
        }

        /** Writes a rule of so many parts that wait, the last one first. */
        private void writeRule(int waitingCount) {
            newStarts[ruleCount] = written;
            ruleCount++;
            int waiting = waitingCount;
            for (int turn = 0; turn < MOST_WAITING && waiting > 0; turn++) {
                waiting--;
                int part = items[waiting];
                if (codes[part] == WRITTEN_OUT && waiting + 2 <= items.length) {
                    items[waiting] = rows.rightOf(part);
                    items[waiting + 1] = rows.leftOf(part);
                    waiting += 2;
                } else {
                    write(codes[part]);
                }
            }
        }

        private void makeRuleRoom(int wanted) {
            if (starts.length <= wanted) {
                int size = wanted * 2;
                starts = new int[size];
                newStarts = new int[size];
                ends = new int[2 * size];
                endRuns = new long[2 * size];
                weights = new double[size];
            }
        }

        // ---- rules that are written anew

        private void openPass() {
            newLetters.clear();
            written = 0;
            held = NONE;
            Arrays.fill(ends, 0, 2 * ruleCount, NONE);
        }

        private void closePass() {
            newStarts[ruleCount] = written;
            int[] oldStarts = starts;
            starts = newStarts;
            newStarts = oldStarts;
            int[] oldItems = items;
            items = newItems;
            newItems = oldItems;
            Letters oldLetters = letters;
            letters = newLetters;
            newLetters = oldLetters;
            counts.drop(stored);
            letters.storeLengths();
        }

        private void write(int item) {
            if (written >= newItems.length) {
                newItems = Arrays.copyOf(newItems, written * 2);
            }
            newItems[written] = item;
            written++;
        }

        /** Whether a rule stands in others, to which it can leave its ends. */
        private boolean isPart(int rule) {
            return rule < ruleCount - 2;
        }

        /** Whether anything is left of a rule that was written, but for its ends. */
        private boolean hasItems(int rule) {
            return newStarts[rule] < newStarts[rule + 1];
        }

        // ---- runs

        /** Makes the letters right ones that stand in runs anywhere, and those at the ends of the pattern. */
        private void findRuns() {
            findEnds();
            letters.forgetSides();
            for (int rule = 0; rule < ruleCount; rule++) {
                for (int i = starts[rule] + 1; i < starts[rule + 1]; i++) {
                    int ahead = endOf(items[i - 1], 1);
                    if (ahead == endOf(items[i], 0)) {
                        letters.setSide(ahead, Letters.RIGHT);
                    }
                }
            }
            letters.setSide(endOf(items[starts[ruleCount - 1]], 0), Letters.RIGHT);
            letters.setSide(endOf(items[starts[ruleCount] - 1], 1), Letters.RIGHT);
        }

        /** Writes one letter in place of each run of a letter. */
        private void writeRuns() {
            openPass();
            for (int rule = 0; rule < ruleCount; rule++) {
                newStarts[rule] = written;
                for (int i = starts[rule]; i < starts[rule + 1]; i++) {
                    if (items[i] >= 0) {
                        addRun(rule, items[i], letters.lengthOf(items[i]));
                        continue;
                    }
                    int part = ~items[i];
                    if (ends[2 * part] != NONE) {
                        addRun(rule, ends[2 * part], endRuns[2 * part]);
                    }
                    if (hasItems(part)) {
                        endRun(rule, false);
                        write(~part);
                    }
                    if (ends[2 * part + 1] != NONE) {
                        addRun(rule, ends[2 * part + 1], endRuns[2 * part + 1]);
                    }
                }
                endRun(rule, true);
            }
            closePass();
        }

        private void addRun(int rule, int letter, long run) {
            if (letter == held) {
                heldRun = counts.keep(counts.plus(heldRun, run), mark);
            } else {
                endRun(rule, false);
                held = letter;
                heldRun = run;
            }
        }

        /** Writes the run that is held, or leaves it to where the rule stands, if it may go on there. */
        private void endRun(int rule, boolean isLast) {
            boolean isFirst = ends[2 * rule] == NONE && newStarts[rule] == written;
            if (held == NONE) {
                return;
            }
            if (isPart(rule) && (isFirst || isLast) && letters.sideOf(held) == Letters.RIGHT) {
                int end = isFirst ? 2 * rule : 2 * rule + 1;
                ends[end] = held;
                endRuns[end] = counts.store(heldRun);
            } else if (heldRun == letters.lengthOf(held)) {
                write(newLetters.name(held, Letters.ALONE, 0, heldRun));
            } else {
                write(newLetters.name(held, Letters.RUN, counts.mixOf(heldRun), heldRun));
            }
            held = NONE;
            counts.release(mark);
        }

        // ---- pairs

        /** Writes one letter in place of each left letter and right letter, or fits the ends of the pattern. */
        private void writeAnew() {
            openPass();
            for (int rule = 0; rule < ruleCount; rule++) {
                newStarts[rule] = written;
                for (int i = starts[rule]; i < starts[rule + 1]; i++) {
                    if (items[i] >= 0) {
                        addLetter(rule, items[i]);
                        continue;
                    }
                    int part = ~items[i];
                    if (ends[2 * part] != NONE) {
                        addLetter(rule, ends[2 * part]);
                    }
                    if (hasItems(part)) {
                        writeHeld();
                        write(~part);
                    }
                    if (ends[2 * part + 1] != NONE) {
                        addLetter(rule, ends[2 * part + 1]);
                    }
                }
                endRule(rule);
            }
            closePass();
        }

        private void addLetter(int rule, int letter) {
            boolean isRight = letters.sideOf(letter) == Letters.RIGHT;
            boolean isFirst = held == NONE && ends[2 * rule] == NONE && newStarts[rule] == written;
            if (isRight && isFirst && isPart(rule)) {
                ends[2 * rule] = letter;
            } else if (isRight && held != NONE && letters.sideOf(held) == Letters.LEFT) {
                joinHeld(letter);
            } else {
                writeHeld();
                held = letter;
            }
        }

        private void endRule(int rule) {
            if (held != NONE && isPart(rule) && letters.sideOf(held) == Letters.LEFT) {
                ends[2 * rule + 1] = held;
                held = NONE;
            } else if (isLeftOut(rule)) {
                held = NONE;
            } else {
                writeHeld();
            }
        }

        private void joinHeld(int letter) {
            if (first != NONE) {
                write(newLetters.name(held, Letters.AHEAD, 0, letters.lengthOf(held)));
                held = letter;
                return;
            }
            int pair = newLetters.find(held, Letters.PAIR, letter, 0);
            if (pair == NONE) {
                long length = counts.plus(letters.lengthOf(held), letters.lengthOf(letter));
                pair = newLetters.name(held, Letters.PAIR, letter, length);
                counts.release(mark);
            }
            write(pair);
            held = NONE;
        }

        private void writeHeld() {
            if (held == NONE) {
                return;
            }
            boolean isBeyondFirst = first != NONE && held != first && letters.isRunAs(held, first);
            boolean isBeyondLast = last != NONE && held != last && letters.isRunAs(held, last);
            int end = isBeyondFirst ? first : isBeyondLast ? last : held;
            long rest = end == held ? 0 : counts.minus(letters.lengthOf(held), letters.lengthOf(end));
            if (isBeyondFirst) {
                write(newLetters.name(held, Letters.REST, 0, rest));
            }
            write(newLetters.name(end, Letters.ALONE, 0, letters.lengthOf(end)));
            if (isBeyondLast) {
                write(newLetters.name(held, Letters.REST, 0, rest));
            }
            counts.release(mark);
            held = NONE;
        }

        // ---- what the pattern begins and ends with

        /**
         * In the row, the runs at the ends of the pattern may be longer. So a longer run is written as two letters, one
         * of them for the end of the pattern. If both ends are runs of the same letter, that can't be done for both: the
         * last run of the pattern is left out, and what stands ahead of such a run, or of a longer one, is told apart.
         */
        private boolean mustFitEnds() {
            int end = starts[ruleCount];
            first = items[starts[ruleCount - 1]];
            last = items[end - 1];
            if (letters.baseOf(first) == letters.baseOf(last)) {
                findEnds();
                letters.setSides(endOf(items[end - 2], 1), last);
                last = NONE;
                return true;
            }
            return letters.hasLongerRun(first) || letters.hasLongerRun(last);
        }

        private boolean isLeftOut(int rule) {
            return rule == ruleCount - 1 && first != NONE && last == NONE;
        }

        /** Finds the letters that all rules begin and end with. */
        private void findEnds() {
            for (int rule = 0; rule < ruleCount; rule++) {
                if (starts[rule] < starts[rule + 1]) {
                    ends[2 * rule] = endOf(items[starts[rule]], 0);
                    ends[2 * rule + 1] = endOf(items[starts[rule + 1] - 1], 1);
                }
            }
        }

        /** The letter that an item begins with, or ends with. */
        private int endOf(int item, int end) {
            return item >= 0 ? item : ends[2 * ~item + end];
        }

        // ---- which letters are joined

        /** Lets many pairs be joined: of those in the pattern, or of those in all rules. */
        private void chooseSides(boolean isByPattern) {
            first = NONE;
            last = NONE;
            weigh(isByPattern);
            findEnds();
            letters.forgetSides();
            for (int rule = 0; rule < ruleCount; rule++) {
                for (int i = starts[rule] + 1; i < starts[rule + 1]; i++) {
                    int ahead = endOf(items[i - 1], 1);
                    int behind = endOf(items[i], 0);
                    if (ahead != behind) {
                        letters.addPair(ahead, behind, weights[rule]);
                    }
                }
            }
            letters.chooseSides(items[starts[ruleCount - 1]], items[starts[ruleCount] - 1]);
        }

        private void weigh(boolean isByPattern) {
            // One by one: the language has no function of the library for doubles.
            for (int rule = 0; rule < ruleCount; rule++) {
                weights[rule] = isByPattern ? 0 : 1;
            }
            if (isByPattern) {
                // So little that all letters of the row count less than one of the pattern.
                weights[ruleCount - 2] = 1e-300;
                weights[ruleCount - 1] = 1;
            }
            for (int rule = ruleCount - 1; rule >= 0 && isByPattern; rule--) {
                for (int i = starts[rule]; i < starts[rule + 1]; i++) {
                    if (items[i] < 0) {
                        weights[~items[i]] += weights[rule];
                    }
                }
            }
        }

        /** Whether the row has all letters that the pattern has. */
        private boolean hasAllLetters() {
            Arrays.fill(ends, 0, 2 * ruleCount, 0);
            ends[2 * (ruleCount - 2)] = 1;
            ends[2 * (ruleCount - 1) + 1] = 1;
            for (int rule = ruleCount - 1; rule >= 0; rule--) {
                boolean isInRow = ends[2 * rule] > 0;
                for (int i = starts[rule]; i < starts[rule + 1]; i++) {
                    if (items[i] < 0) {
                        ends[2 * ~items[i]] |= ends[2 * rule];
                        ends[2 * ~items[i] + 1] |= ends[2 * rule + 1];
                    } else if (isInRow) {
                        letters.setSide(items[i], Letters.LEFT);
                    }
                }
            }
            for (int rule = 0; rule < ruleCount; rule++) {
                for (int i = starts[rule]; i < starts[rule + 1] && ends[2 * rule + 1] > 0; i++) {
                    if (items[i] >= 0 && letters.sideOf(items[i]) != Letters.LEFT) {
                        return false;
                    }
                }
            }
            return true;
        }

        // ---- where the pattern is found

        private boolean isPatternOneLetter() {
            return starts[ruleCount] - starts[ruleCount - 1] == 1;
        }

        /** Where the last run in the row lies that is the one letter of the pattern, or ends with it. */
        private long placeOfRun() {
            int sought = items[starts[ruleCount] - 1];
            measure(sought);
            long ahead = 0;
            int rule = ruleCount - 2;
            for (int turn = 0; turn < ruleCount && ends[2 * rule] != NONE; turn++) {
                int place = ends[2 * rule];
                for (int i = starts[rule]; i < place; i++) {
                    ahead = counts.keep(counts.plus(ahead, lengthOf(items[i])), mark);
                }
                if (items[place] >= 0) {
                    long less = counts.minus(lengthOf(items[place]), lengthOf(sought));
                    return counts.keep(counts.plus(ahead, less), mark);
                }
                rule = ~items[place];
            }
            return NOWHERE;
        }

        /** Finds how long all rules are, and the last item of each that has the letter in it. */
        private void measure(int sought) {
            for (int rule = 0; rule < ruleCount; rule++) {
                long length = 0;
                ends[2 * rule] = NONE;
                for (int i = starts[rule]; i < starts[rule + 1]; i++) {
                    int item = items[i];
                    boolean isIn = item >= 0 ? letters.isRunAs(item, sought) : ends[2 * ~item] != NONE;
                    ends[2 * rule] = isIn ? i : ends[2 * rule];
                    length = counts.keep(counts.plus(length, lengthOf(item)), mark);
                }
                endRuns[2 * rule] = counts.copy(length);
                counts.release(mark);
            }
        }

        private long lengthOf(int item) {
            return item >= 0 ? letters.lengthOf(item) : endRuns[2 * ~item];
        }
    }

    /** What a call still has to do when what it does at last is done: a step that leaves regions. */
    private static final class Pending {
        static final char JUMP = 'j';
        static final char RETURN = 'r';
        static final char HANDLE = 'h';
        static final char THROUGH = 't';

        Pending under = null;
        char way = JUMP;
        int step = 0;
        int nextRegion = 0;
        int endRegion = 0;
        int place = NONE;
        long value = NULL;
        int catcher = NONE;
        int catchRegion = NONE;
    }

    /** A call that is under way, or an iterator. */
    private static final class Frame {
        // What the call is of.
        static final char RUN = 'r';
        static final char METHOD = 'm';
        static final char READY = 's';
        static final char FILTER = 'w';
        static final char ITERATION = 'i';

        // How an iterator stands.
        static final int FRESH = 0;
        static final int STILL = 1;
        static final int GOING = 2;
        static final int OVER = 3;

        // Where the local 0 lies that is a structure which is not copied.
        static final int HERE = 0;
        static final int IN_BOX = 1;
        static final int IN_TARGET = 2;
        static final int IN_FRAME = 3;

        final long[] locals = new long[LOCALS];
        int self = HERE;
        int selfIndex = 0;
        Frame selfFrame = null;
        Body body = null;
        int at = 0;
        int argument = NONE;
        char role = RUN;
        int state = FRESH;
        boolean isEnding = false;
        Pending pending = null;

        void begin(Body begun, int typeArgument, char begunAs) {
            Arrays.fill(locals, NULL);
            bindSelf(HERE, 0, null);
            body = begun;
            at = 0;
            argument = typeArgument;
            role = begunAs;
            state = FRESH;
            isEnding = false;
        }

        void bindSelf(int where, int index, Frame frame) {
            self = where;
            selfIndex = index;
            selfFrame = frame;
        }
    }

    /** What a run tells when it has ended. */
    private static final class Outcome {
        // The argument in a piece is none, any reference (OWN), or one of the types.
        private static final int ARGUMENTS = MOST_TYPES + 2;

        // How the statics of a type stand.
        static final int UNUSED = 0;
        static final int USED = 1;
        static final int SPOILT = 2;

        char end = '-';
        long value = NULL;
        int unhandled = 0;
        final int[] output = new int[MOST_STEPS];
        int outputCount = 0;
        int stepCount = 0;
        // A new piece takes a new step that calls, makes an iterator, or makes a target.
        private final int[] pieces = new int[MOST_THINGS];
        int pieceCount = 0;
        // Calls that take no step can be more than an int tells.
        int callCount = 0;
        float callsAsFloat = 0;
        int boxCount = 0;
        int finalCount = 0;
        final long[] statics = new long[MOST_TYPES * STATICS];
        final int[] staticStates = new int[MOST_TYPES];
        final int[] staticFaults = new int[MOST_TYPES];

        void clear() {
            end = '-';
            value = NULL;
            unhandled = 0;
            outputCount = 0;
            stepCount = 0;
            pieceCount = 0;
            callCount = 0;
            callsAsFloat = 0;
            boxCount = 0;
            finalCount = 0;
            Arrays.fill(statics, ZERO);
            Arrays.fill(staticStates, UNUSED);
            Arrays.fill(staticFaults, 0);
        }

        void put(int number) {
            if (outputCount < MOST_STEPS) {
                output[outputCount] = number;
                outputCount++;
            }
        }

        void notePiece(int method, int name, int argument) {
            int piece = (method * NAMES + name) * ARGUMENTS + argument - OWN;
            for (int i = 0; i < pieceCount; i++) {
                if (pieces[i] == piece) {
                    return;
                }
            }
            if (pieceCount < MOST_THINGS) {
                pieces[pieceCount] = piece;
                pieceCount++;
            }
        }

        boolean tellsAs(Outcome other) {
            if (end != other.end || stepCount != other.stepCount || outputCount != other.outputCount) {
                return false;
            }
            for (int i = 0; i < outputCount; i++) {
                if (output[i] != other.output[i]) {
                    return false;
                }
            }
            if (end == 'u') {
                return unhandled == other.unhandled;
            }
            return end != 'r' || kindOf(value) == kindOf(other.value)
                && (kindOf(value) != NUMBER || value == other.value);
        }
    }

    /** Carries bodies out, one run after another. */
    private static final class Machine {
        // The exception left an iterator that stood still since its handler was found.
        private static final int STALE = -2;
        // Far more than the idle parts, as many as a row is deep, between the targets that take 1000 steps.
        private static final int MOST_PARTS_CALLED = 1 << 24;

        private final Plan plan;
        private final Store store = new Store();
        private final Rows rows = new Rows();
        private Search search = null;
        private final Frame[] stack = new Frame[MOST_CALLS];
        private final Frame[] plainFrames = new Frame[MOST_CALLS];
        private int depth = 0;
        private final Frame[] iterators = new Frame[MOST_THINGS];
        private int iteratorCount = 0;
        // How many calls were made, as one of the numbers of targets.
        private long calls = 0;
        private Pending spare = null;
        private Outcome out = null;
        private boolean isWritten = false;
        private long result = NULL;
        private int thrown = 0;
        private int catcher = NONE;
        private int catchRegion = NONE;
        private int foundMethod = NONE;
        private int foundArgument = NONE;

        Machine(Plan plan) {
            this.plan = plan;
            for (int i = 0; i < MOST_CALLS; i++) {
                plainFrames[i] = new Frame();
            }
        }

        void perform(Body body, int argument, boolean isWrittenOut, Outcome outcome) {
            outcome.clear();
            store.clear();
            rows.clear();
            depth = 0;
            iteratorCount = 0;
            calls = 0;
            out = outcome;
            isWritten = isWrittenOut;
            Frame frame = open(body, INT, Frame.RUN);
            frame.locals[1] = ofNumber(argument);
            int way = enter(frame);
            out.boxCount = store.boxCount;
            out.callCount = rows.counts.inInt(calls);
            out.callsAsFloat = rows.counts.inFloat(calls);
            if (way == RETURNED) {
                out.end = 'r';
                out.value = result;
            } else if (way == UNHANDLED) {
                out.end = 'u';
                out.unhandled = thrown;
            } else {
                out.end = 'l';
            }
        }

        // ---- calls within one another

        private boolean isFull() {
            return depth >= MOST_CALLS;
        }

        private void addCalls(long count) {
            Counts counts = rows.counts;
            int mark = counts.mark();
            calls = counts.store(counts.plus(calls, count));
            counts.release(mark);
        }

        /** A new call that has not begun; there must be room for it. */
        private Frame open(Body body, int argument, char role) {
            Frame frame = plainFrames[depth];
            drop(frame);
            frame.begin(body, argument, role);
            return frame;
        }

        private int enter(Frame frame) {
            stack[depth] = frame;
            depth++;
            int way = goThrough(frame);
            depth--;
            return way == LEFT ? UNWIND : way;
        }

        private int goThrough(Frame frame) {
            int way = GO_ON;
            for (int turn = 0; turn < MOST_TURNS && way == GO_ON; turn++) {
                way = frame.at < frame.body.stepCount ? step(frame) : end(frame);
                if (way == THROW) {
                    way = raise();
                }
                if (way == UNWIND) {
                    way = unwind(frame);
                }
            }
            return way == GO_ON ? LIMIT : way;
        }

        private int step(Frame frame) {
            if (out.stepCount >= MOST_STEPS) {
                return LIMIT;
            }
            out.stepCount++;
            int i = frame.at;
            int way = carryOut(frame, i);
            if (way == NEXT) {
                frame.at = i + 1;
                way = GO_ON;
            }
            return way;
        }

        private int carryOut(Frame frame, int i) {
            switch (frame.body.ops[i]) {
                case 'j':
                case 'z':
                case 'r':
                case 'e':
                case 'x':
                case 'y':
                case 'p':
                    return turn(frame, i);
                case '+':
                case '-':
                case '<':
                    return reckon(frame, i);
                case 'N':
                case 'd':
                case 'U':
                case 'T':
                    return useType(frame, i);
                case '.':
                case '!':
                    return useField(frame, i);
                case 'S':
                case 's':
                    return useStatic(frame, i);
                case 'C':
                    return call(frame, i);
                case 'G':
                    return makeIterator(frame, i);
                case 'E':
                    return goOn(frame, i);
                case 'Q':
                    return endIterator(frame, i);
                case 'D':
                    return makeTarget(frame, i);
                case 'P':
                case 'M':
                    return makeRow(frame, i);
                case 'I':
                    return callRow(frame, i);
                default:
                    return become(frame, i);
            }
        }

        /** The end of a body counts as a step if something is done at last there, so that no ring is endless. */
        private int end(Frame frame) {
            if (frame.body.isWatched(frame.at)) {
                if (out.stepCount >= MOST_STEPS) {
                    return LIMIT;
                }
                out.stepCount++;
            }
            return giveBack(frame, NULL);
        }

        // ---- what is thrown

        private int fail(int number) {
            thrown = number;
            return THROW;
        }

        /** Looks for a handler of what was thrown, with all calls still under way. */
        private int raise() {
            int number = thrown;
            for (int i = depth - 1; i >= 0; i--) {
                Frame frame = stack[i];
                int region = 0;
                int answer = 0;
                while (region < frame.body.regionCount && answer == 0) {
                    answer = accepts(frame, region, number);
                    region++;
                }
                thrown = number;
                if (answer == LIMIT) {
                    return LIMIT;
                }
                if (answer != 0) {
                    catcher = i;
                    catchRegion = region - 1;
                    return UNWIND;
                }
                if (frame.role == Frame.READY || frame.role == Frame.FILTER) {
                    catcher = NONE;
                    return UNWIND;
                }
            }
            return UNHANDLED;
        }

        /** 1 if a region handles a number thrown from where its call stands, 0 if not, or LIMIT. */
        private int accepts(Frame frame, int region, int number) {
            Body body = frame.body;
            if (!body.holds(region, frame.at) || body.letters[region] == 'f') {
                return 0;
            }
            int told = body.numbers[region];
            if (body.letters[region] == 'c') {
                return told == NONE || told == number ? 1 : 0;
            }
            return plan.hasBody(told) ? askFilter(frame, plan.bodies[told], number) : 0;
        }

        private int askFilter(Frame frame, Body filter, int number) {
            if (isFull()) {
                return 0;
            }
            Frame asked = open(filter, frame.argument, Frame.FILTER);
            bindTo(asked, frame, 0);
            asked.locals[1] = ofNumber(number);
            addCalls(1);
            int way = enter(asked);
            if (way == RETURNED) {
                return kindOf(result) == NUMBER && restOf(result) != 0 ? 1 : 0;
            }
            return way == UNWIND ? 0 : LIMIT;
        }

        /** What is thrown out of a step takes the place of all that was under way in this call. */
        private int unwind(Frame frame) {
            drop(frame);
            Body body = frame.body;
            if (catcher != depth - 1) {
                return leave(frame, Pending.THROUGH, NONE, body.regionCount, ofNumber(thrown));
            }
            int place = body.places[catchRegion];
            return leave(frame, Pending.HANDLE, place, catchRegion, ofNumber(thrown));
        }

        // ---- what is done at last

        /** Leaves regions of a call, from the step at which it stands, ahead of what is to be done then. */
        private int leave(Frame frame, char way, int place, int endRegion, long value) {
            Pending left = spare == null ? new Pending() : spare;
            spare = left.under;
            left.way = way;
            left.step = frame.at;
            left.nextRegion = 0;
            left.endRegion = endRegion;
            left.place = place;
            left.value = value;
            left.catcher = catcher;
            left.catchRegion = catchRegion;
            left.under = frame.pending;
            frame.pending = left;
            return proceed(frame);
        }

        /** Goes on with what is under way in a call: the next region that is left, or what comes behind all. */
        private int proceed(Frame frame) {
            Pending left = frame.pending;
            if (left == null) {
                return NEXT;
            }
            Body body = frame.body;
            for (int i = left.nextRegion; i < left.endRegion; i++) {
                if (body.letters[i] == 'f' && body.holds(i, left.step) && !body.holds(i, left.place)) {
                    left.nextRegion = i + 1;
                    frame.at = body.places[i];
                    out.finalCount++;
                    return GO_ON;
                }
            }
            frame.pending = left.under;
            left.under = spare;
            spare = left;
            return finish(frame, left);
        }

        private int finish(Frame frame, Pending left) {
            switch (left.way) {
                case Pending.RETURN:
                    result = left.value;
                    return RETURNED;
                case Pending.THROUGH:
                    thrown = restOf(left.value);
                    catcher = left.catcher;
                    catchRegion = left.catchRegion;
                    return LEFT;
                case Pending.HANDLE:
                    frame.locals[LOCALS - 1] = left.value;
                    frame.at = left.place;
                    return GO_ON;
                default:
                    frame.at = left.place;
                    return GO_ON;
            }
        }

        private void drop(Frame frame) {
            Pending left = frame.pending;
            while (left != null) {
                Pending under = left.under;
                left.under = spare;
                spare = left;
                left = under;
            }
            frame.pending = null;
        }

        private int giveBack(Frame frame, long value) {
            drop(frame);
            return leave(frame, Pending.RETURN, NONE, frame.body.regionCount, value);
        }

        // ---- locals

        private long get(Frame frame, int local) {
            if (local == 0) {
                switch (frame.self) {
                    case Frame.IN_BOX:
                        return store.inBox(frame.selfIndex);
                    case Frame.IN_TARGET:
                        return rows.receiverOf(frame.selfIndex);
                    case Frame.IN_FRAME:
                        return frame.selfFrame == null ? NULL : frame.selfFrame.locals[frame.selfIndex];
                    default:
                        break;
                }
            }
            return frame.locals[local];
        }

        private int set(Frame frame, int local, long value) {
            if (local == 0) {
                frame.bindSelf(Frame.HERE, 0, null);
            }
            frame.locals[local] = value;
            return NEXT;
        }

        /** Changes the structure in a local where it is. */
        private void replace(Frame frame, int local, long structure) {
            if (local == 0 && frame.self == Frame.IN_BOX) {
                store.putInBox(frame.selfIndex, structure);
            } else if (local == 0 && frame.self == Frame.IN_TARGET) {
                rows.setReceiver(frame.selfIndex, structure);
            } else if (local == 0 && frame.self == Frame.IN_FRAME && frame.selfFrame != null) {
                frame.selfFrame.locals[frame.selfIndex] = structure;
            } else {
                frame.locals[local] = structure;
            }
        }

        /** Makes the local 0 of a call what a local of another one is; a structure stays where it is. */
        private void bindTo(Frame frame, Frame from, int local) {
            long value = get(from, local);
            if (kindOf(value) != STRUCTURE) {
                frame.locals[0] = value;
            } else if (local == 0 && from.self != Frame.HERE) {
                frame.bindSelf(from.self, from.selfIndex, from.selfFrame);
            } else {
                frame.bindSelf(Frame.IN_FRAME, local, from);
            }
        }

        private boolean bindToBox(Frame frame, long receiver) {
            if (kindOf(receiver) != BOX) {
                return false;
            }
            frame.bindSelf(Frame.IN_BOX, restOf(receiver), null);
            return true;
        }

        // ---- steps on values

        private int become(Frame frame, int i) {
            Body body = frame.body;
            int a = body.as[i];
            int b = body.bs[i];
            switch (body.ops[i]) {
                case '=':
                    return set(frame, a, ofNumber(b));
                case ':':
                    return set(frame, a, get(frame, b));
                case '?':
                    return set(frame, a, ofNumber(get(frame, b) == get(frame, body.cs[i]) ? 1 : 0));
                case 'B':
                    long value = get(frame, b);
                    boolean isValue = kindOf(value) == NUMBER || kindOf(value) == STRUCTURE;
                    return set(frame, a, isValue ? store.box(value) : value);
                default:
                    return NEXT;
            }
        }

        private int reckon(Frame frame, int i) {
            long one = get(frame, frame.body.bs[i]);
            long other = get(frame, frame.body.cs[i]);
            if (kindOf(one) != NUMBER || kindOf(other) != NUMBER) {
                return fail(FAULT_WRONG);
            }
            char op = frame.body.ops[i];
            int number = restOf(one) < restOf(other) ? 1 : 0;
            if (op != '<') {
                number = op == '+' ? restOf(one) + restOf(other) : restOf(one) - restOf(other);
            }
            return set(frame, frame.body.as[i], ofNumber(number));
        }

        /** The steps on where a call goes on, and on what it lets out. */
        private int turn(Frame frame, int i) {
            Body body = frame.body;
            char op = body.ops[i];
            if (op == 'j') {
                return jump(frame, body.bs[i]);
            }
            if (op == 'e') {
                return proceed(frame);
            }
            long value = get(frame, body.as[i]);
            if (op == 'z') {
                return value == NULL || value == ZERO ? jump(frame, body.bs[i]) : NEXT;
            }
            if (op == 'r') {
                return giveBack(frame, value);
            }
            if (op == 'y') {
                return give(frame, value);
            }
            if (kindOf(value) != NUMBER) {
                return fail(FAULT_WRONG);
            }
            if (op == 'x') {
                return fail(restOf(value));
            }
            out.put(restOf(value));
            return NEXT;
        }

        private int jump(Frame frame, int place) {
            return leave(frame, Pending.JUMP, place, frame.body.regionCount, NULL);
        }

        private int useField(Frame frame, int i) {
            Body body = frame.body;
            int b = body.bs[i];
            int field = body.cs[i];
            long owner = get(frame, b);
            if (owner == NULL) {
                return fail(FAULT_NULL);
            }
            if (!Store.hasFields(owner)) {
                return fail(FAULT_WRONG);
            }
            if (body.ops[i] == '.') {
                return set(frame, body.as[i], store.field(owner, field));
            }
            long value = get(frame, body.as[i]);
            if (kindOf(owner) == STRUCTURE) {
                replace(frame, b, store.withField(owner, field, value));
            } else {
                store.setObjectField(owner, field, value);
            }
            return NEXT;
        }

        // ---- types in steps

        /** The type that a step names, made if it is new; or, if there is none, less than 0: less the fault. */
        private int typeInStep(Frame frame, int number) {
            if (number >= 0) {
                return plan.hasType(number) ? number : -FAULT_WRONG;
            }
            if (frame.argument == NONE) {
                return -FAULT_LIMIT;
            }
            if (number == -1) {
                return frame.argument;
            }
            int index = -2 - number;
            if (!plan.hasKind(index) || !plan.kinds[index].hasParameter) {
                return -FAULT_WRONG;
            }
            Kind kind = plan.kinds[index];
            int type = plan.allows(kind.limit, frame.argument) ? plan.makeType(kind, frame.argument) : NONE;
            return type == NONE ? -FAULT_LIMIT : type;
        }

        private int useType(Frame frame, int i) {
            Body body = frame.body;
            char op = body.ops[i];
            int a = body.as[i];
            int type = typeInStep(frame, op == 'N' || op == 'd' ? body.bs[i] : body.cs[i]);
            if (type < 0) {
                return fail(-type);
            }
            if (op == 'd' || op == 'N' && plan.isValue(type)) {
                return set(frame, a, firstOf(type));
            }
            if (op == 'N') {
                Kind kind = plan.typeKinds[type];
                return kind == null || kind.letter != 'c' ? fail(FAULT_WRONG) : set(frame, a, store.newObject(type));
            }
            long value = get(frame, body.bs[i]);
            int own = store.typeOf(value);
            if (op == 'T') {
                return set(frame, a, ofNumber(own != NONE && plan.fits(own, type) ? 1 : 0));
            }
            return unbox(frame, a, value, type);
        }

        private long firstOf(int type) {
            if (type == INT) {
                return ZERO;
            }
            return plan.isValue(type) ? store.structure(type, ZERO, ZERO, ZERO) : NULL;
        }

        private int unbox(Frame frame, int a, long value, int type) {
            int own = store.typeOf(value);
            if (plan.isValue(type)) {
                if (value == NULL) {
                    return fail(FAULT_NULL);
                }
                boolean isRight = kindOf(value) == BOX && own == type;
                return isRight ? set(frame, a, store.inBox(restOf(value))) : fail(FAULT_UNBOX);
            }
            boolean isRight = value == NULL || own != NONE && plan.fits(own, type);
            return isRight ? set(frame, a, value) : fail(FAULT_UNBOX);
        }

        private int useStatic(Frame frame, int i) {
            Body body = frame.body;
            int type = typeInStep(frame, body.bs[i]);
            if (type < 0) {
                return fail(-type);
            }
            if (plan.typeKinds[type] == null) {
                return fail(FAULT_WRONG);
            }
            int way = makeReady(type);
            if (way != NEXT) {
                return way;
            }
            int at = type * STATICS + body.cs[i];
            if (body.ops[i] == 'S') {
                return set(frame, body.as[i], out.statics[at]);
            }
            out.statics[at] = get(frame, body.as[i]);
            return NEXT;
        }

        /** Makes the statics of a type of a kind ready, if this is their first use. */
        private int makeReady(int type) {
            if (out.staticStates[type] == Outcome.SPOILT) {
                return fail(out.staticFaults[type]);
            }
            int ready = plan.typeKinds[type].ready;
            if (out.staticStates[type] == Outcome.USED || !plan.hasBody(ready)) {
                return NEXT;
            }
            if (isFull()) {
                return fail(FAULT_LIMIT);
            }
            out.staticStates[type] = Outcome.USED;
            addCalls(1);
            int way = enter(open(plan.bodies[ready], plan.typeArguments[type], Frame.READY));
            if (way == RETURNED) {
                return NEXT;
            }
            if (way != UNWIND) {
                return way;
            }
            out.staticStates[type] = Outcome.SPOILT;
            out.staticFaults[type] = thrown;
            return fail(thrown);
        }

        // ---- calls of methods

        /** Looks for the method that a receiver has for a kind and name; tells the fault, or 0. */
        private int seek(long receiver, int way) {
            if (receiver == NULL) {
                return FAULT_NULL;
            }
            int type = store.typeOf(receiver);
            Kind kind = type == NONE ? null : plan.typeKinds[type];
            int through = way / 10;
            if (kind == null || !plan.hasKind(through) || (plan.allAbove(kind.index) >> through & 1) == 0) {
                return FAULT_WRONG;
            }
            foundMethod = plan.find(kind, plan.kinds[through], way % 10);
            if (foundMethod == NONE) {
                return FAULT_NO_BODY;
            }
            Kind owner = plan.kinds[foundMethod / MOST_BODIES];
            foundArgument = Plan.argumentFor(kind, plan.typeArguments[type], owner);
            return foundArgument == MISSING ? FAULT_WRONG : 0;
        }

        private Body foundBody() {
            return plan.bodies[foundMethod % MOST_BODIES];
        }

        private void countPiece(int name) {
            int argument = foundArgument;
            if (!isWritten && argument != NONE && !plan.isValue(argument)) {
                argument = OWN;
            }
            out.notePiece(foundMethod, name, argument);
        }

        /** A call of the method that was found, which has not begun. */
        private Frame openFound(int name, long argument) {
            countPiece(name);
            addCalls(1);
            Frame called = open(foundBody(), foundArgument, Frame.METHOD);
            called.locals[1] = argument;
            return called;
        }

        private int call(Frame frame, int i) {
            Body body = frame.body;
            long receiver = get(frame, body.bs[i]);
            int fault = seek(receiver, body.cs[i]);
            if (fault == 0 && isFull()) {
                fault = FAULT_LIMIT;
            }
            if (fault != 0) {
                return fail(fault);
            }
            Frame called = openFound(body.cs[i] % 10, get(frame, body.ds[i]));
            if (!bindToBox(called, receiver)) {
                bindTo(called, frame, body.bs[i]);
            }
            int way = enter(called);
            return way == RETURNED ? set(frame, body.as[i], result) : way;
        }

        // ---- delegates

        private int makeTarget(Frame frame, int i) {
            Body body = frame.body;
            long receiver = get(frame, body.bs[i]);
            int way = body.cs[i];
            boolean isIdle = seek(receiver, way) == 0 && foundBody().isEmpty();
            return set(frame, body.as[i], rows.single(receiver, way, isIdle));
        }

        private int makeRow(Frame frame, int i) {
            Body body = frame.body;
            long one = get(frame, body.bs[i]);
            long other = get(frame, body.cs[i]);
            if (!isRow(one) || !isRow(other)) {
                return fail(FAULT_WRONG);
            }
            if (body.ops[i] == 'P') {
                return set(frame, body.as[i], rows.joined(one, other));
            }
            if (search == null) {
                search = new Search(rows);
            }
            return set(frame, body.as[i], search.without(one, other));
        }

        private static boolean isRow(long value) {
            return value == NULL || kindOf(value) == DELEGATE;
        }

        private int callRow(Frame frame, int i) {
            Body body = frame.body;
            long delegate = get(frame, body.bs[i]);
            if (delegate == NULL) {
                return fail(FAULT_NULL);
            }
            if (kindOf(delegate) != DELEGATE) {
                return fail(FAULT_WRONG);
            }
            int row = rows.rootOf(delegate);
            int part = row;
            int way = RETURNED;
            int mark = rows.counts.mark();
            long at = 0;
            for (int turn = 0; turn < MOST_PARTS_CALLED && way == RETURNED && rows.isBefore(at, row); turn++) {
                part = rows.partAt(row, at);
                way = rows.isIdle(part) ? callIdle(part) : callTarget(frame, rows.targetOf(part), body.cs[i]);
                at = rows.placeBehind(at, part, mark);
            }
            rows.counts.release(mark);
            return way == RETURNED ? set(frame, body.as[i], result) : way;
        }

        /** Calls all targets of a part whose calls take no step; no run could end that called them one by one. */
        private int callIdle(int part) {
            if (isFull()) {
                return fail(FAULT_LIMIT);
            }
            if (rows.ask(part)) {
                for (int i = part; i >= 0; i--) {
                    notePieceOf(rows.answer(i));
                }
            }
            addCalls(rows.lengthOf(part));
            result = NULL;
            return RETURNED;
        }

        private void notePieceOf(int target) {
            if (target != NONE && seek(rows.receiverOf(target), rows.wayOf(target)) == 0) {
                countPiece(rows.wayOf(target) % 10);
            }
        }

        private int callTarget(Frame frame, int target, int local) {
            long receiver = rows.receiverOf(target);
            int fault = seek(receiver, rows.wayOf(target));
            if (fault == 0 && isFull()) {
                fault = FAULT_LIMIT;
            }
            if (fault != 0) {
                return fail(fault);
            }
            Frame called = openFound(rows.wayOf(target) % 10, get(frame, local));
            if (kindOf(receiver) == STRUCTURE) {
                called.bindSelf(Frame.IN_TARGET, target, null);
            } else if (!bindToBox(called, receiver)) {
                called.locals[0] = receiver;
            }
            return enter(called);
        }

        // ---- iterators

        private int makeIterator(Frame frame, int i) {
            Body body = frame.body;
            long receiver = get(frame, body.bs[i]);
            int fault = seek(receiver, body.cs[i]);
            if (fault != 0) {
                return fail(fault);
            }
            if (iteratorCount >= MOST_THINGS) {
                return NEXT;
            }
            countPiece(body.cs[i] % 10);
            if (iterators[iteratorCount] == null) {
                iterators[iteratorCount] = new Frame();
            }
            Frame made = iterators[iteratorCount];
            drop(made);
            made.begin(foundBody(), foundArgument, Frame.ITERATION);
            made.locals[1] = get(frame, body.ds[i]);
            if (!bindToBox(made, receiver)) {
                made.locals[0] = receiver;
            }
            iteratorCount++;
            return set(frame, body.as[i], valueOf(ITERATOR, iteratorCount - 1));
        }

        /** What a value throws that should be an iterator which is not going on, or 0. */
        private int iteratorFault(long value) {
            if (value == NULL) {
                return FAULT_NULL;
            }
            if (kindOf(value) != ITERATOR || iterators[restOf(value)] == null) {
                return FAULT_WRONG;
            }
            return iterators[restOf(value)].state == Frame.GOING ? FAULT_ITERATOR : 0;
        }

        private int goOn(Frame frame, int i) {
            Body body = frame.body;
            long value = get(frame, body.bs[i]);
            int fault = iteratorFault(value);
            if (fault != 0) {
                return fail(fault);
            }
            Frame iterator = iterators[restOf(value)];
            if (iterator.state == Frame.OVER) {
                return set(frame, body.as[i], ZERO);
            }
            if (isFull()) {
                return fail(FAULT_LIMIT);
            }
            if (iterator.state == Frame.STILL) {
                iterator.at++;
            }
            iterator.state = Frame.GOING;
            int way = enter(iterator);
            if (way == GAVE) {
                iterator.state = Frame.STILL;
                set(frame, body.as[i], ofNumber(1));
                return set(frame, body.cs[i], result);
            }
            iterator.state = Frame.OVER;
            return way == RETURNED ? set(frame, body.as[i], ZERO) : passOn(way);
        }

        private int endIterator(Frame frame, int i) {
            long value = get(frame, frame.body.as[i]);
            int fault = iteratorFault(value);
            if (fault != 0) {
                return fail(fault);
            }
            Frame iterator = iterators[restOf(value)];
            int way = RETURNED;
            if (iterator.state == Frame.STILL && iterator.body.isWatched(iterator.at)) {
                if (isFull()) {
                    return fail(FAULT_LIMIT);
                }
                iterator.state = Frame.GOING;
                iterator.isEnding = true;
                giveBack(iterator, NULL);
                way = enter(iterator);
            }
            iterator.state = Frame.OVER;
            return way == RETURNED ? NEXT : passOn(way);
        }

        /** An exception whose handler was found ahead of a rest is thrown anew from the step that ended the rest. */
        private int passOn(int way) {
            return way == UNWIND && catcher == STALE ? fail(thrown) : way;
        }

        private int give(Frame frame, long value) {
            if (frame.role != Frame.ITERATION) {
                return fail(FAULT_ITERATOR);
            }
            // Nobody asks an iterator that is over: it goes on with what it has to do at last.
            if (frame.isEnding) {
                return NEXT;
            }
            for (Pending left = frame.pending; left != null; left = left.under) {
                if (left.way == Pending.THROUGH) {
                    left.catcher = STALE;
                }
            }
            result = value;
            return GAVE;
        }
    }
}
