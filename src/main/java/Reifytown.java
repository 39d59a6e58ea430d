import java.util.Arrays;
import java.util.NoSuchElementException;

/** A machine of kinds that live at running time; README.md tells how it is used. */
public final class Reifytown {
    private static final int MOST_KINDS = 10;
    private static final int MOST_OTHERS = 3;
    private static final int NAMES = 6;
    private static final int MOST_TYPES = 60;
    private static final int DEEPEST = 5;
    private static final int MOST_BODIES = 14;
    private static final int MOST_LINES = 24;
    private static final int MOST_REGIONS = 4;
    private static final int LOCALS = 6;
    private static final int FIELDS = 3;
    private static final int STATICS = 2;
    private static final int MOST_STEPS = 1000;
    private static final int MOST_CALLS = 12;
    // A step makes at most one object, box, structure, target, delegate or iterator.
    private static final int MOST_THINGS = MOST_STEPS + 1;
    private static final int BUCKETS = 1024;

    // Far more turns than 1000 steps, and the ends of bodies between them, can take.
    private static final int MOST_TURNS = 1000000;

    private static final int INT = 0;
    private static final int OBJECT = 1;
    private static final int NONE = -1;
    private static final int OWN = -2;
    private static final int MISSING = -3;

    // Each op with what its numbers a, b, c and d are: l local, f field, t static, p place, k kind and name.
    private static final int OP_WIDTH = 5;
    private static final String OPS =
        "=l---:ll--+lll--lll-<lll-?lll-j-p--zlp--Nl---dl---.llf-!llf-Bll--Ull--Tll--CllklGllklElll-Ql---yl---Sl-t-sl-t-Dllk-Plll-Mlll-Illl-xl---rl---e----pl---";

    // The exceptions of code.
    private static final int FAULT_NULL = 1;
    private static final int FAULT_UNBOX = 2;
    private static final int FAULT_WRONG = 3;
    private static final int FAULT_NO_BODY = 4;
    private static final int FAULT_ITERATOR = 5;
    private static final int FAULT_LIMIT = 6;

    // A value of code is a long: what it is above, and its number or its place in a store below.
    private static final int NIL = 0;
    private static final int NUMBER = 1;
    private static final int STRUCTURE = 2;
    private static final int THING = 3;
    private static final int BOX = 4;
    private static final int DELEGATE = 5;
    private static final int ITERATOR = 6;
    private static final String LETTERS = "0nsobdi";
    private static final long NULL = 0L;
    private static final long ZERO = 1L << 32;

    // How a step, or a call, went on.
    private static final int GO_ON = 0;
    private static final int NEXT = 1;
    private static final int THROW = 2;
    private static final int UNWIND = 3;
    private static final int LEFT = 4;
    private static final int RETURNED = 5;
    private static final int GAVE = 6;
    private static final int UNHANDLED = 7;
    private static final int LIMIT = 8;

    private final Plan plan = new Plan();
    private final Types types = new Types();
    private final Machine machine = new Machine(plan, types);
    private final Outcome last = new Outcome();
    private final Outcome shared = new Outcome();
    private final Outcome writtenOut = new Outcome();
    private long stepsOfAll = 0;
    private int runCount = 0;

    public Reifytown() {
    }

    // ---- kinds and types

    public int addKind(char letter, boolean hasParameter, char variance, char limit)
            throws IllegalArgumentException, IllegalStateException {
        boolean isLetter = letter == 'c' || letter == 's' || letter == 'i';
        boolean isVariance = variance == '=' || (variance == '+' || variance == '-') && letter == 'i' && hasParameter;
        boolean isLimit = limit == '-' || (limit == 'v' || limit == 'r') && hasParameter;
        if (!isLetter || !isVariance || !isLimit) {
            throw new IllegalArgumentException("no such letter, variance or limit");
        }
        if (plan.kindCount >= MOST_KINDS) {
            throw new IllegalStateException("there are 10 kinds");
        }
        int index = plan.kindCount;
        plan.kinds[index] = new Kind(index, letter, hasParameter, variance, limit);
        plan.kindCount++;
        return index;
    }

    public int setParent(int kind, int parent, int argument) throws IndexOutOfBoundsException,
            IllegalArgumentException, UnsupportedOperationException, IllegalStateException {
        if (!plan.hasKind(kind) || !plan.hasKind(parent) || !isTold(argument)) {
            throw new IndexOutOfBoundsException("no such kind or type");
        }
        Kind child = plan.kinds[kind];
        Kind above = plan.kinds[parent];
        if (child.letter != 'c' || above.letter != 'c' || !canLieBelow(child, above, argument)) {
            throw new IllegalArgumentException("no such parent");
        }
        if (!isAllowed(child, above, argument)) {
            throw new UnsupportedOperationException("the limit of the parent");
        }
        if (child.parent != null || child.isTyped) {
            throw new IllegalStateException("it has a parent or a type");
        }
        child.parent = above;
        child.parentArgument = argument;
        int children = 0;
        for (int i = 0; i < plan.kindCount; i++) {
            if (plan.kinds[i].parent == above) {
                children++;
            }
        }
        return children;
    }

    public int addInterface(int kind, int other, int argument) throws IndexOutOfBoundsException,
            IllegalArgumentException, UnsupportedOperationException, IllegalStateException {
        if (!plan.hasKind(kind) || !plan.hasKind(other) || !isTold(argument)) {
            throw new IndexOutOfBoundsException("no such kind or type");
        }
        Kind child = plan.kinds[kind];
        Kind above = plan.kinds[other];
        if (above.letter != 'i' || !canLieBelow(child, above, argument)) {
            throw new IllegalArgumentException("no such interface");
        }
        if (!isAllowed(child, above, argument)) {
            throw new UnsupportedOperationException("the limit of the interface");
        }
        if (child.otherCount >= MOST_OTHERS || child.hasOther(above) || child.isTyped) {
            throw new IllegalStateException("it has 3 interfaces, this one, or a type");
        }
        child.others[child.otherCount] = above;
        child.otherArguments[child.otherCount] = argument;
        child.otherCount++;
        return child.otherCount;
    }

    public int type(int kind, int argument) throws IndexOutOfBoundsException, IllegalArgumentException,
            UnsupportedOperationException, IllegalStateException {
        if (!plan.hasKind(kind) || argument != NONE && !types.isThere(argument)) {
            throw new IndexOutOfBoundsException("no such kind or type");
        }
        Kind made = plan.kinds[kind];
        if (made.hasParameter == (argument == NONE)) {
            throw new IllegalArgumentException("an argument just if there is no parameter");
        }
        if (argument != NONE && !types.allows(made.limit, argument)) {
            throw new UnsupportedOperationException("the limit of the parameter");
        }
        int type = types.make(made, argument);
        if (type == NONE) {
            throw new IllegalStateException("too many types, or too deep");
        }
        return type;
    }

    public int types() {
        return types.count;
    }

    public boolean isBelow(int type, int other) throws IndexOutOfBoundsException {
        if (!types.isThere(type) || !types.isThere(other)) {
            throw new IndexOutOfBoundsException("no such type");
        }
        return types.fits(type, other);
    }

    // ---- methods and code

    public int addMethod(int kind, int name, char letter, int body) throws IndexOutOfBoundsException,
            IllegalArgumentException, UnsupportedOperationException, IllegalStateException {
        boolean isBody = letter == 'a' ? body == NONE : plan.hasBody(body);
        if (!plan.hasKind(kind) || !isBody) {
            throw new IndexOutOfBoundsException("no such kind or body");
        }
        Kind owner = plan.kinds[kind];
        if (!isName(name) || !owner.takesMethod(letter)) {
            throw new IllegalArgumentException("no such name or letter");
        }
        if (letter == 'o' && !owner.hasSlotAbove(name)) {
            throw new UnsupportedOperationException("no slot above");
        }
        if (owner.methodLetters[name] != 0) {
            throw new IllegalStateException("it has a method of this name");
        }
        owner.methodLetters[name] = letter;
        owner.methodBodies[name] = body;
        owner.methodCount++;
        return owner.methodCount;
    }

    public int tell(int kind, int other, int name, int body) throws IndexOutOfBoundsException,
            IllegalArgumentException, UnsupportedOperationException, IllegalStateException {
        if (!plan.hasKind(kind) || !plan.hasKind(other) || !plan.hasBody(body)) {
            throw new IndexOutOfBoundsException("no such kind or body");
        }
        if (!isName(name) || plan.kinds[other].letter != 'i') {
            throw new IllegalArgumentException("no such name or interface");
        }
        if ((plan.interfacesOf(kind) >> other & 1) == 0) {
            throw new UnsupportedOperationException("it does not have the interface");
        }
        Kind owner = plan.kinds[kind];
        int place = other * NAMES + name;
        if (owner.told[place] != NONE) {
            throw new IllegalStateException("it tells one already");
        }
        owner.told[place] = body;
        owner.toldCount++;
        return owner.toldCount;
    }

    public int setReady(int kind, int body) throws IndexOutOfBoundsException {
        if (!plan.hasKind(kind) || body != NONE && !plan.hasBody(body)) {
            throw new IndexOutOfBoundsException("no such kind or body");
        }
        Kind owner = plan.kinds[kind];
        int before = owner.ready;
        owner.ready = body;
        return before;
    }

    public int addBody() throws IllegalStateException {
        if (plan.bodyCount >= MOST_BODIES) {
            throw new IllegalStateException("there are 14 bodies");
        }
        plan.bodies[plan.bodyCount] = new Body();
        plan.bodyCount++;
        return plan.bodyCount - 1;
    }

    public int addStep(int body, char op, int a, int b, int c, int d)
            throws IndexOutOfBoundsException, IllegalArgumentException, IllegalStateException {
        if (!plan.hasBody(body)) {
            throw new IndexOutOfBoundsException("no such body");
        }
        int place = placeOfOp(op);
        if (place == NONE || !isNumberFor(OPS.charAt(place + 1), a) || !isNumberFor(OPS.charAt(place + 2), b)
                || !isNumberFor(OPS.charAt(place + 3), c) || !isNumberFor(OPS.charAt(place + 4), d)) {
            throw new IllegalArgumentException("no such op, or a number out of range");
        }
        Body owner = plan.bodies[body];
        if (owner.stepCount >= MOST_LINES) {
            throw new IllegalStateException("it has 24 steps");
        }
        owner.addLine(op, a, b, c, d);
        return owner.stepCount - 1;
    }

    public int addRegion(int body, int first, int last, char letter, int number, int place)
            throws IndexOutOfBoundsException, IllegalArgumentException, IllegalStateException {
        if (!plan.hasBody(body) || letter == 'w' && !plan.hasBody(number)) {
            throw new IndexOutOfBoundsException("no such body or filter");
        }
        boolean isLetter = letter == 'f' || letter == 'c' || letter == 'w';
        boolean isRange = first >= 0 && last >= first && last < MOST_LINES;
        boolean isPlace = place >= 0 && place < MOST_LINES && (place < first || place > last);
        if (!isLetter || !isRange || !isPlace) {
            throw new IllegalArgumentException("no such letter or place");
        }
        Body owner = plan.bodies[body];
        if (owner.regionCount >= MOST_REGIONS) {
            throw new IllegalStateException("it has 4 regions");
        }
        int index = owner.regionCount;
        owner.firsts[index] = first;
        owner.lasts[index] = last;
        owner.letters[index] = letter;
        owner.numbers[index] = number;
        owner.places[index] = place;
        owner.regionCount++;
        return owner.regionCount;
    }

    public int found(int type, int kind, int name) throws IndexOutOfBoundsException, IllegalArgumentException {
        if (!types.isThere(type) || !plan.hasKind(kind)) {
            throw new IndexOutOfBoundsException("no such type or kind");
        }
        if (!isName(name)) {
            throw new IllegalArgumentException("no such name");
        }
        Kind receiver = types.kinds[type];
        if (receiver == null || receiver.letter == 'i' || (plan.allAbove(receiver.index) >> kind & 1) == 0) {
            return NONE;
        }
        int method = plan.find(receiver, plan.kinds[kind], name);
        return method == NONE ? NONE : method % MOST_BODIES;
    }

    // ---- runs

    public char run(int body, int argument) throws IndexOutOfBoundsException {
        return runOnce(body, argument, false);
    }

    public char runWritten(int body, int argument) throws IndexOutOfBoundsException {
        return runOnce(body, argument, true);
    }

    public char returned() throws NoSuchElementException {
        if (last.end != 'r') {
            throw new NoSuchElementException("no run that returned");
        }
        return letterOf(last.value);
    }

    public int number() throws NoSuchElementException {
        if (last.end != 'r' || kindOf(last.value) != NUMBER) {
            throw new NoSuchElementException("no run that returned a number");
        }
        return restOf(last.value);
    }

    public int unhandled() throws NoSuchElementException {
        if (last.end != 'u') {
            throw new NoSuchElementException("no run that ended so");
        }
        return last.unhandled;
    }

    public int outputs() {
        return last.outputCount;
    }

    public int output(int index) throws IndexOutOfBoundsException {
        if (index < 0 || index >= last.outputCount) {
            throw new IndexOutOfBoundsException("no such place");
        }
        return last.output[index];
    }

    public int staticOf(int type, int index)
            throws IndexOutOfBoundsException, IllegalArgumentException, NoSuchElementException {
        if (!types.isThere(type)) {
            throw new IndexOutOfBoundsException("no such type");
        }
        if (index < 0 || index >= STATICS) {
            throw new IllegalArgumentException("no such static");
        }
        long value = last.statics[type * STATICS + index];
        if (runCount == 0 || types.kinds[type] == null || kindOf(value) != NUMBER) {
            throw new NoSuchElementException("no number there");
        }
        return restOf(value);
    }

    public int steps() {
        return last.stepCount;
    }

    public int pieces() {
        return last.pieceCount;
    }

    public int calls() {
        return last.callCount;
    }

    public int boxes() {
        return last.boxCount;
    }

    public int finals() {
        return last.finalCount;
    }

    public long allSteps() {
        return stepsOfAll;
    }

    public float pieceShare() throws ArithmeticException {
        if (last.callCount == 0) {
            throw new ArithmeticException("there were no calls");
        }
        return (float) last.pieceCount / (float) last.callCount;
    }

    public double meanSteps() throws ArithmeticException {
        if (runCount == 0) {
            throw new ArithmeticException("there were no runs");
        }
        return (double) stepsOfAll / (double) runCount;
    }

    public boolean isSame(int body, int argument) throws IndexOutOfBoundsException {
        if (!plan.hasBody(body)) {
            throw new IndexOutOfBoundsException("no such body");
        }
        machine.perform(plan.bodies[body], argument, false, shared);
        machine.perform(plan.bodies[body], argument, true, writtenOut);
        return shared.tellsAs(writtenOut);
    }

    // ---- what stands behind the calls

    private char runOnce(int body, int argument, boolean isWritten) throws IndexOutOfBoundsException {
        if (!plan.hasBody(body)) {
            throw new IndexOutOfBoundsException("no such body");
        }
        machine.perform(plan.bodies[body], argument, isWritten, last);
        stepsOfAll += last.stepCount;
        runCount++;
        return last.end;
    }

    /** Whether it can be told as the argument of a parent or an interface, of whatever kind. */
    private boolean isTold(int argument) {
        return argument == NONE || argument == OWN || types.isThere(argument);
    }

    private static boolean canLieBelow(Kind child, Kind above, int argument) {
        return above.index < child.index && above.hasParameter == (argument != NONE)
            && (argument != OWN || child.hasParameter);
    }

    private boolean isAllowed(Kind child, Kind above, int argument) {
        if (argument == OWN) {
            return above.limit == '-' || above.limit == child.limit;
        }
        return argument == NONE || types.allows(above.limit, argument);
    }

    private static boolean isName(int name) {
        return name >= 0 && name < NAMES;
    }

    private static int placeOfOp(char op) {
        for (int i = 0; i + OP_WIDTH <= OPS.length(); i += OP_WIDTH) {
            if (OPS.charAt(i) == op) {
                return i;
            }
        }
        return NONE;
    }

    private static boolean isNumberFor(char what, int number) {
        switch (what) {
            case 'l':
                return number >= 0 && number < LOCALS;
            case 'f':
                return number >= 0 && number < FIELDS;
            case 't':
                return number >= 0 && number < STATICS;
            case 'p':
                return number >= 0 && number <= MOST_LINES;
            case 'k':
                return number >= 0 && number < MOST_KINDS * 10 && number % 10 < NAMES;
            default:
                return true;
        }
    }

    // ---- values of code

    private static long valueOf(int kind, int rest) {
        return (long) kind << 32 | rest & 0xFFFFFFFFL;
    }

    private static long ofNumber(int number) {
        return valueOf(NUMBER, number);
    }

    private static int kindOf(long value) {
        return (int) (value >>> 32);
    }

    private static int restOf(long value) {
        return (int) value;
    }

    private static char letterOf(long value) {
        int kind = kindOf(value);
        return kind >= 0 && kind < LETTERS.length() ? LETTERS.charAt(kind) : '0';
    }

    /** A kind as it was told: what lies above it, its methods, and what it tells for interfaces. */
    private static final class Kind {
        final int index;
        final char letter;
        final boolean hasParameter;
        final char variance;
        final char limit;
        Kind parent = null;
        int parentArgument = NONE;
        final Kind[] others = new Kind[MOST_OTHERS];
        final int[] otherArguments = new int[MOST_OTHERS];
        int otherCount = 0;
        boolean isTyped = false;
        final char[] methodLetters = new char[NAMES];
        final int[] methodBodies = new int[NAMES];
        int methodCount = 0;
        final int[] told = new int[MOST_KINDS * NAMES];
        int toldCount = 0;
        int ready = NONE;

        Kind(int index, char letter, boolean hasParameter, char variance, char limit) {
            this.index = index;
            this.letter = letter;
            this.hasParameter = hasParameter;
            this.variance = variance;
            this.limit = limit;
            Arrays.fill(told, NONE);
        }

        boolean hasOther(Kind other) {
            for (int i = 0; i < otherCount; i++) {
                if (others[i] == other) {
                    return true;
                }
            }
            return false;
        }

        boolean takesMethod(char method) {
            if (letter == 'i') {
                return method == 'a' || method == 'd';
            }
            return method == 'v' || method == 'o' || method == 'n';
        }

        /** The nearest kind from here up with a method of this name, or null. */
        Kind nearest(int name) {
            for (Kind kind = this; kind != null; kind = kind.parent) {
                if (kind.methodLetters[name] != 0) {
                    return kind;
                }
            }
            return null;
        }

        boolean hasSlotAbove(int name) {
            Kind above = parent == null ? null : parent.nearest(name);
            return above != null && above.methodLetters[name] != 'n';
        }

        /** The kind that began the slot which the method here takes, or null if it takes none. */
        Kind slotOf(int name) {
            char method = methodLetters[name];
            if (method != 'v' && method != 'o') {
                return null;
            }
            for (Kind kind = this; kind != null; kind = kind.parent) {
                if (kind.methodLetters[name] == 'v') {
                    return kind;
                }
            }
            return null;
        }
    }

    /** The steps and regions of a body. */
    private static final class Body {
        final char[] ops = new char[MOST_LINES];
        final int[] as = new int[MOST_LINES];
        final int[] bs = new int[MOST_LINES];
        final int[] cs = new int[MOST_LINES];
        final int[] ds = new int[MOST_LINES];
        int stepCount = 0;
        final int[] firsts = new int[MOST_REGIONS];
        final int[] lasts = new int[MOST_REGIONS];
        final char[] letters = new char[MOST_REGIONS];
        final int[] numbers = new int[MOST_REGIONS];
        final int[] places = new int[MOST_REGIONS];
        int regionCount = 0;

        void addLine(char op, int a, int b, int c, int d) {
            if (stepCount < MOST_LINES) {
                ops[stepCount] = op;
                as[stepCount] = a;
                bs[stepCount] = b;
                cs[stepCount] = c;
                ds[stepCount] = d;
                stepCount++;
            }
        }

        boolean holds(int region, int place) {
            return place >= firsts[region] && place <= lasts[region];
        }

        /** Whether a call of it takes no step. */
        boolean isEmpty() {
            return stepCount == 0 && !isWatched(0);
        }

        /** Whether something is told at last for a step at this place. */
        boolean isWatched(int place) {
            for (int i = 0; i < regionCount; i++) {
                if (letters[i] == 'f' && holds(i, place)) {
                    return true;
                }
            }
            return false;
        }
    }

    /** The kinds and bodies that were told, and which method a call finds among them. */
    private static final class Plan {
        final Kind[] kinds = new Kind[MOST_KINDS];
        int kindCount = 0;
        final Body[] bodies = new Body[MOST_BODIES];
        int bodyCount = 0;

        boolean hasKind(int kind) {
            return kind >= 0 && kind < kindCount;
        }

        boolean hasBody(int body) {
            return body >= 0 && body < bodyCount;
        }

        /** The interfaces of a kind, its own and those through them, as bits. */
        int interfacesOf(int kind) {
            int found = directOthers(kinds[kind]);
            for (int i = kind - 1; i >= 0; i--) {
                if ((found >> i & 1) != 0) {
                    found |= directOthers(kinds[i]);
                }
            }
            return found;
        }

        /** The kind itself and all that lie above it over all ways, as bits. */
        int allAbove(int kind) {
            int found = 1 << kind;
            for (int i = kind; i >= 0; i--) {
                if ((found >> i & 1) != 0) {
                    Kind parent = kinds[i].parent;
                    found |= directOthers(kinds[i]) | (parent == null ? 0 : 1 << parent.index);
                }
            }
            return found;
        }

        private static int directOthers(Kind kind) {
            int found = 0;
            for (int i = 0; i < kind.otherCount; i++) {
                found |= 1 << kind.others[i].index;
            }
            return found;
        }

        /** The method that a call finds, as its kind times 14 plus its body, or NONE. */
        int find(Kind receiver, Kind kind, int name) {
            if (kind.letter != 'i') {
                return findBySlot(receiver, kind, name);
            }
            for (Kind at = receiver; at != null; at = at.parent) {
                int body = at.told[kind.index * NAMES + name];
                if (body != NONE) {
                    return at.index * MOST_BODIES + body;
                }
                if ((interfacesOf(at.index) >> kind.index & 1) != 0 && at.nearest(name) != null) {
                    return findBySlot(receiver, at, name);
                }
            }
            return findDefault(receiver, kind, name);
        }

        private int findBySlot(Kind receiver, Kind kind, int name) {
            Kind nearest = kind.nearest(name);
            if (nearest == null) {
                return NONE;
            }
            Kind slot = nearest.slotOf(name);
            if (slot == null) {
                return nearest.index * MOST_BODIES + nearest.methodBodies[name];
            }
            for (Kind at = receiver; at != null; at = at.parent) {
                if (at.slotOf(name) == slot) {
                    return at.index * MOST_BODIES + at.methodBodies[name];
                }
            }
            return NONE;
        }

        private int findDefault(Kind receiver, Kind kind, int name) {
            int above = allAbove(receiver.index);
            int candidates = 0;
            for (int i = 0; i < kindCount; i++) {
                if ((above >> i & 1) != 0 && defaultOf(kinds[i], kind, name) != NONE) {
                    candidates |= 1 << i;
                }
            }
            for (int i = 0; i < kindCount; i++) {
                if ((candidates >> i & 1) != 0 && (candidates & ~(interfacesOf(i) | 1 << i)) == 0) {
                    return i * MOST_BODIES + defaultOf(kinds[i], kind, name);
                }
            }
            return NONE;
        }

        /** The body that an interface has for a name of an interface, told or by default, or NONE. */
        private static int defaultOf(Kind owner, Kind kind, int name) {
            if (owner.letter != 'i') {
                return NONE;
            }
            if (owner == kind) {
                return owner.methodLetters[name] == 'd' ? owner.methodBodies[name] : NONE;
            }
            return owner.told[kind.index * NAMES + name];
        }

        /** The argument of the first type of a kind that is found in a type, MISSING if there is none. */
        static int argumentFor(Kind kind, int argument, Kind wanted) {
            return searchArgument(kind, argument, wanted);
        }

        /** All that lies above a kind has a lower number, so this goes at most 10 deep. */
        private static int searchArgument(Kind kind, int argument, Kind wanted) {
            if (kind == wanted) {
                return argument;
            }
            for (int i = 0; i < kind.otherCount; i++) {
                int found = searchArgument(kind.others[i], Types.put(kind.otherArguments[i], argument), wanted);
                if (found != MISSING) {
                    return found;
                }
            }
            if (kind.parent == null) {
                return MISSING;
            }
            return searchArgument(kind.parent, Types.put(kind.parentArgument, argument), wanted);
        }
    }

    /** The types that were made, and which lie below which. */
    private static final class Types {
        final Kind[] kinds = new Kind[MOST_TYPES];
        final int[] arguments = new int[MOST_TYPES];
        private final int[] depths = new int[MOST_TYPES];
        int count = 2;
        private final int[] questions = new int[MOST_TYPES * MOST_TYPES];
        private final boolean[] isAsked = new boolean[MOST_TYPES * MOST_TYPES];
        private int questionCount = 0;

        Types() {
            Arrays.fill(arguments, NONE);
            Arrays.fill(depths, 1);
        }

        boolean isThere(int type) {
            return type >= 0 && type < count;
        }

        boolean isValue(int type) {
            return type == INT || kinds[type] != null && kinds[type].letter == 's';
        }

        boolean allows(char limit, int type) {
            return limit == '-' || isValue(type) == (limit == 'v');
        }

        /** The type of a kind with an argument, made if it is new, or NONE if it can't be. */
        int make(Kind kind, int argument) {
            for (int i = 0; i < count; i++) {
                if (kinds[i] == kind && arguments[i] == argument) {
                    return i;
                }
            }
            int depth = argument == NONE ? 1 : depths[argument] + 1;
            if (count >= MOST_TYPES || depth > DEEPEST) {
                return NONE;
            }
            kinds[count] = kind;
            arguments[count] = argument;
            depths[count] = depth;
            kind.isTyped = true;
            count++;
            return count - 1;
        }

        /** The argument that was told for a parent or an interface, where a type has this own one. */
        static int put(int told, int own) {
            return told == OWN ? own : told;
        }

        /**
         * Whether a type is below another one. Variance can ask for the same pair in a ring, so each
         * pair is asked once, and there are at most 60 times 60.
         */
        boolean fits(int type, int other) {
            boolean answer = false;
            questionCount = 0;
            ask(type, other);
            for (int i = 0; i < questionCount && i < questions.length && !answer; i++) {
                answer = fitsNow(questions[i] / MOST_TYPES, questions[i] % MOST_TYPES);
            }
            for (int i = 0; i < questionCount; i++) {
                isAsked[questions[i]] = false;
            }
            return answer;
        }

        private void ask(int type, int other) {
            int question = type * MOST_TYPES + other;
            if (!isAsked[question]) {
                isAsked[question] = true;
                questions[questionCount] = question;
                questionCount++;
            }
        }

        private boolean fitsNow(int type, int other) {
            if (type == other || other == OBJECT) {
                return true;
            }
            return kinds[type] != null && climb(kinds[type], arguments[type], other);
        }

        /** All that lies above a kind has a lower number, so this goes at most 10 deep. */
        private boolean climb(Kind kind, int argument, int other) {
            if (kind == kinds[other]) {
                if (argument == arguments[other]) {
                    return true;
                }
                askByVariance(kind.variance, argument, arguments[other]);
            }
            for (int i = 0; i < kind.otherCount; i++) {
                if (climb(kind.others[i], put(kind.otherArguments[i], argument), other)) {
                    return true;
                }
            }
            return kind.parent != null && climb(kind.parent, put(kind.parentArgument, argument), other);
        }

        private void askByVariance(char variance, int argument, int other) {
            if (variance == '=' || isValue(argument) || isValue(other)) {
                return;
            }
            if (variance == '+') {
                ask(argument, other);
            } else {
                ask(other, argument);
            }
        }
    }

    /** The objects, structures and boxes of a run. A structure with the same fields is stored once. */
    private static final class Store {
        private final int[] objectTypes = new int[MOST_THINGS];
        private final long[] objectFields = new long[MOST_THINGS * FIELDS];
        private int objectCount = 0;
        private final int[] structureTypes = new int[MOST_THINGS];
        private final long[] structureFields = new long[MOST_THINGS * FIELDS];
        private final int[] nextInBucket = new int[MOST_THINGS];
        private final int[] buckets = new int[BUCKETS];
        private int structureCount = 0;
        private final long[] boxed = new long[MOST_THINGS];
        int boxCount = 0;

        void clear() {
            objectCount = 0;
            structureCount = 0;
            boxCount = 0;
            Arrays.fill(buckets, NONE);
        }

        long newObject(int type) {
            if (objectCount >= MOST_THINGS) {
                return NULL;
            }
            objectTypes[objectCount] = type;
            Arrays.fill(objectFields, objectCount * FIELDS, objectCount * FIELDS + FIELDS, ZERO);
            objectCount++;
            return valueOf(THING, objectCount - 1);
        }

        long box(long value) {
            if (boxCount >= MOST_THINGS) {
                return NULL;
            }
            boxed[boxCount] = value;
            boxCount++;
            return valueOf(BOX, boxCount - 1);
        }

        long inBox(int box) {
            return boxed[box];
        }

        void putInBox(int box, long value) {
            boxed[box] = value;
        }

        /**
         * The structure of a type with these fields. Each one is kept once, so that two structures
         * are the same just if their values are, however many lie within one another.
         */
        long structure(int type, long first, long second, long third) {
            int bucket = bucketOf(type, first, second, third);
            int i = buckets[bucket];
            for (int tries = 0; tries < structureCount && i >= 0; tries++) {
                int at = i * FIELDS;
                if (structureTypes[i] == type && structureFields[at] == first
                        && structureFields[at + 1] == second && structureFields[at + 2] == third) {
                    return valueOf(STRUCTURE, i);
                }
                i = nextInBucket[i];
            }
            if (structureCount >= MOST_THINGS) {
                return NULL;
            }
            int made = structureCount;
            structureTypes[made] = type;
            structureFields[made * FIELDS] = first;
            structureFields[made * FIELDS + 1] = second;
            structureFields[made * FIELDS + 2] = third;
            nextInBucket[made] = buckets[bucket];
            buckets[bucket] = made;
            structureCount++;
            return valueOf(STRUCTURE, made);
        }

        private static int bucketOf(int type, long first, long second, long third) {
            long mixed = ((type * 31L + first) * 31L + second) * 31L + third;
            int folded = (int) (mixed ^ mixed >>> 32);
            return (folded ^ folded >>> 16) & BUCKETS - 1;
        }

        /** The same structure with another value in a field. */
        long withField(long structure, int field, long value) {
            int made = restOf(structure);
            int at = made * FIELDS;
            return structure(structureTypes[made], field == 0 ? value : structureFields[at],
                field == 1 ? value : structureFields[at + 1], field == 2 ? value : structureFields[at + 2]);
        }

        static boolean hasFields(long value) {
            return kindOf(value) == THING || kindOf(value) == STRUCTURE;
        }

        long field(long owner, int field) {
            int at = restOf(owner) * FIELDS + field;
            return kindOf(owner) == THING ? objectFields[at] : structureFields[at];
        }

        void setObjectField(long object, int field, long value) {
            objectFields[restOf(object) * FIELDS + field] = value;
        }

        /** The type of a value, of an object, or of what is boxed; NONE if it has none. */
        int typeOf(long value) {
            long inside = kindOf(value) == BOX ? boxed[restOf(value)] : value;
            switch (kindOf(inside)) {
                case NUMBER:
                    return INT;
                case STRUCTURE:
                    return structureTypes[restOf(inside)];
                case THING:
                    return objectTypes[restOf(inside)];
                default:
                    return NONE;
            }
        }
    }

    /**
     * Numbers of targets, however large, since a row can be twice as long with each step: one less than LARGE
     * is told as itself, any other one as LARGE and the place of its digits.
     */
    private static final class Counts {
        private static final int DIGIT = 60;
        static final long LARGE = 1L << DIGIT;

        // Enough for what 1000 steps can double.
        private static final int DIGITS = 17;
        static final int BITS = DIGIT * DIGITS;
        // The first places are for passing results, a few at a time; those behind are for what is stored.
        private static final int PASSING = 256;
        private static final int FIRST_LARGE = PASSING + 16;
        private static final int MOST_LARGE = 1 << 19;

        private long[] digits = new long[0];
        private int passingCount = 0;
        private int storedCount = 0;
        // No number has more digits than this.
        private int width = 1;

        void clear() {
            passingCount = 0;
            storedCount = 0;
            width = 1;
        }

        /** How many passing results there are. */
        int mark() {
            return passingCount;
        }

        /** Gives up the passing results that were made since there were so many. */
        void release(int mark) {
            passingCount = mark;
        }

        /** Gives up all these but one. */
        long keep(long count, int mark) {
            passingCount = mark;
            if (count < LARGE || count >= LARGE + PASSING) {
                return count;
            }
            System.arraycopy(digits, (int) (count - LARGE) * DIGITS, digits, mark * DIGITS, DIGITS);
            passingCount++;
            return LARGE + mark;
        }

        /** How many numbers are stored. */
        int stored() {
            return storedCount;
        }

        /** Gives up what was stored since there was so much. */
        void drop(int stored) {
            storedCount = stored;
        }

        /** Stores what may be a passing result. */
        long store(long count) {
            if (count < LARGE || count >= LARGE + PASSING) {
                return count;
            }
            int place = (PASSING + storedCount) * DIGITS;
            if (place >= digits.length && digits.length < MOST_LARGE * DIGITS) {
                digits = Arrays.copyOf(digits, digits.length * 2);
            }
            if (place < digits.length) {
                System.arraycopy(digits, (int) (count - LARGE) * DIGITS, digits, place, DIGITS);
                storedCount++;
            }
            return LARGE + PASSING + storedCount - 1;
        }

        long plus(long one, long other) {
            if (one < LARGE && other < LARGE && one + other < LARGE) {
                return one + other;
            }
            int made = reserve();
            long sum = 0;
            for (int i = 0; i < width; i++) {
                sum += digit(one, i) + digit(other, i);
                digits[made + i] = sum & LARGE - 1;
                sum >>= DIGIT;
            }
            if (sum > 0 && width < DIGITS) {
                widen();
                digits[made + width - 1] = sum;
            }
            return told(made);
        }

        /** One less another, which is not larger. */
        long minus(long one, long other) {
            if (one < LARGE) {
                return one - other;
            }
            int made = reserve();
            long left = 0;
            for (int i = 0; i < width; i++) {
                left += digit(one, i) - digit(other, i);
                digits[made + i] = left & LARGE - 1;
                left >>= DIGIT;
            }
            return told(made);
        }

        /** What is left when one is divided by another, which is not 0. */
        long rest(long one, long other) {
            if (one < LARGE || isLess(one, other)) {
                return one < LARGE && other < LARGE ? one % other : one;
            }
            int made = reserve();
            Arrays.fill(digits, made, made + DIGITS, 0);
            for (int i = bitsOf(one) - 1; i >= 0; i--) {
                long next = hasBit(one, i) ? 1 : 0;
                for (int k = 0; k < DIGITS; k++) {
                    next += digits[made + k] * 2;
                    digits[made + k] = next & LARGE - 1;
                    next >>= DIGIT;
                }
                lessen(made, other);
            }
            return told(made);
        }

        /** Takes a number away from another one, if it is not larger. */
        private void lessen(int made, long other) {
            int i = DIGITS - 1;
            while (i > 0 && digits[made + i] == digit(other, i)) {
                i--;
            }
            boolean isLarger = digits[made + i] < digit(other, i);
            long left = 0;
            for (int k = 0; k < DIGITS && !isLarger; k++) {
                left += digits[made + k] - digit(other, k);
                digits[made + k] = left & LARGE - 1;
                left >>= DIGIT;
            }
        }

        boolean isLess(long one, long other) {
            if (one < LARGE || other < LARGE) {
                return one < other;
            }
            int place = (int) (one - LARGE) * DIGITS;
            int otherPlace = (int) (other - LARGE) * DIGITS;
            int i = width - 1;
            while (i > 0 && digits[place + i] == digits[otherPlace + i]) {
                i--;
            }
            return digits[place + i] < digits[otherPlace + i];
        }

        boolean isEqual(long one, long other) {
            int same = 0;
            while (same < width && digit(one, same) == digit(other, same)) {
                same++;
            }
            return same == width;
        }

        long least(long one, long other) {
            return isLess(other, one) ? other : one;
        }

        boolean hasBit(long count, int bit) {
            return (digit(count, bit / DIGIT) >> bit % DIGIT & 1) != 0;
        }

        int bitsOf(long count) {
            int bits = count < LARGE ? DIGIT : DIGIT * width;
            while (bits > 0 && !hasBit(count, bits - 1)) {
                bits--;
            }
            return bits;
        }

        /** A number as an int, or the greatest int if it is larger. */
        int inInt(long count) {
            if (bitsOf(count) > 31) {
                return 0x7FFFFFFF;
            }
            int number = 0;
            for (int i = 30; i >= 0; i--) {
                number = number * 2 + (hasBit(count, i) ? 1 : 0);
            }
            return number;
        }

        private long digit(long count, int index) {
            if (count < LARGE) {
                return index == 0 ? count : 0;
            }
            return index >= width ? 0 : digits[(int) (count - LARGE) * DIGITS + index];
        }

        /** The place of the digits of a new passing result. */
        private int reserve() {
            if (digits.length == 0) {
                digits = new long[FIRST_LARGE * DIGITS];
            }
            if (passingCount < PASSING) {
                passingCount++;
            }
            return (passingCount - 1) * DIGITS;
        }

        /** Gives all numbers one more digit. */
        private void widen() {
            for (int i = 0; i < passingCount; i++) {
                digits[i * DIGITS + width] = 0;
            }
            for (int i = PASSING; i < PASSING + storedCount; i++) {
                digits[i * DIGITS + width] = 0;
            }
            width++;
        }

        private long told(int made) {
            int i = width - 1;
            while (i > 0 && digits[made + i] == 0) {
                i--;
            }
            if (i > 0) {
                return LARGE + made / DIGITS;
            }
            passingCount = made / DIGITS;
            return digits[made];
        }
    }

    /**
     * The delegates of a run. A row of targets is a tree of parts, since a row can be twice as long with
     * each step, and rows share their parts. A part is one target, or two parts with lower numbers.
     */
    private static final class Rows {
        private static final int FIRST_PARTS = 64;
        // 'P' makes one part, which lies one deeper; 'M' makes at most two for each depth, and none lies deeper.
        static final int DEEPEST_PART = MOST_STEPS;
        private static final int MOST_PARTS = 1 << 19;
        private static final int WAYS = 128;

        // Signs are reckoned modulo two prime numbers, for the upper and the lower half of a long. With these bases
        // no power is 1 below 2 to the power of 60.6, which is not near what rows have as their lengths.
        private static final long HIGH_PRIME = 1783943243;
        private static final long LOW_PRIME = 2042718023;
        private static final long LOW_HALF = 0xFFFFFFFFL;
        static final long BASE = 1627558490L << 32 | 1790043976L;
        static final long ONE = 1L << 32 | 1L;

        // What is known of a part: that its calls take no step, that its pieces were noted, or are to be.
        private static final int IDLE = 1;
        private static final int NOTED = 2;
        private static final int ASKED = 4;

        final Counts counts = new Counts();
        private final long[] receivers = new long[MOST_THINGS];
        private final int[] ways = new int[MOST_THINGS];
        private int targetCount = 0;
        private final int[] roots = new int[MOST_THINGS];
        private int rowCount = 0;
        private int[] lefts = new int[FIRST_PARTS];
        private int[] rights = new int[FIRST_PARTS];
        private long[] lengths = new long[FIRST_PARTS];
        private long[] signs = new long[FIRST_PARTS];
        private long[] powers = new long[FIRST_PARTS];
        private byte[] marks = new byte[FIRST_PARTS];
        private int partCount = 0;
        private int signedCount = 0;

        void clear() {
            counts.clear();
            targetCount = 0;
            rowCount = 0;
            partCount = 0;
            signedCount = 0;
        }

        // ---- delegates

        /** A delegate with one target of its own; it is idle if its call takes no step and throws nothing. */
        long single(long receiver, int way, boolean isIdle) {
            if (targetCount >= MOST_THINGS || !reserve()) {
                return NULL;
            }
            receivers[targetCount] = receiver;
            ways[targetCount] = way;
            targetCount++;
            return row(add(NONE, targetCount - 1, 1, isIdle ? IDLE : 0));
        }

        /** A new delegate with the targets of both. */
        long joined(long one, long other) {
            return row(join(rootOf(one), rootOf(other)));
        }

        /** A new delegate with the targets of a part, null for NONE. */
        long row(int root) {
            if (root == NONE || rowCount >= MOST_THINGS) {
                return NULL;
            }
            roots[rowCount] = root;
            rowCount++;
            return valueOf(DELEGATE, rowCount - 1);
        }

        /** The part with all targets of a delegate, NONE for null. */
        int rootOf(long delegate) {
            return kindOf(delegate) == DELEGATE ? roots[restOf(delegate)] : NONE;
        }

        // ---- targets

        long receiverOf(int target) {
            return receivers[target];
        }

        /** Changes a receiver, and so what its target is like. */
        void setReceiver(int target, long value) {
            receivers[target] = value;
            signedCount = 0;
        }

        int wayOf(int target) {
            return ways[target];
        }

        // ---- parts

        long lengthOf(int part) {
            return lengths[part];
        }

        /** The first of the two parts of a part, NONE if it is one target. */
        int leftOf(int part) {
            return lefts[part];
        }

        int rightOf(int part) {
            return rights[part];
        }

        /** The target that a part is, NONE if it is two parts. */
        int targetOf(int part) {
            return lefts[part] == NONE ? rights[part] : NONE;
        }

        boolean isIdle(int part) {
            return (marks[part] & IDLE) != 0;
        }

        boolean isBefore(long place, int part) {
            return counts.isLess(place, lengths[part]);
        }

        /** The place behind a part, as the one passing result since a mark. */
        long placeBehind(long place, int part, int mark) {
            return counts.keep(counts.plus(place, lengths[part]), mark);
        }

        /** The longest idle part, or else the one target, that begins in a part at a place. */
        int partAt(int whole, long place) {
            int mark = counts.mark();
            int part = whole;
            long ahead = place;
            for (int i = 0; i < DEEPEST_PART && lefts[part] >= 0 && (ahead > 0 || !isIdle(part)); i++) {
                int left = lefts[part];
                if (counts.isLess(ahead, lengths[left])) {
                    part = left;
                } else {
                    ahead = counts.keep(counts.minus(ahead, lengths[left]), mark);
                    part = rights[part];
                }
            }
            counts.release(mark);
            return part;
        }

        /** Asks for the pieces of a part; false if they were noted before. */
        boolean ask(int part) {
            if ((marks[part] & NOTED) != 0) {
                return false;
            }
            marks[part] |= ASKED;
            return true;
        }

        /** If a part was asked for: its target, which is noted so; its own parts are asked for in its place. */
        int answer(int part) {
            if ((marks[part] & ASKED) == 0) {
                return NONE;
            }
            marks[part] = (byte) (marks[part] & ~ASKED | NOTED);
            if (lefts[part] >= 0) {
                ask(lefts[part]);
                ask(rights[part]);
            }
            return targetOf(part);
        }

        private boolean reserve() {
            if (partCount < lefts.length) {
                return true;
            }
            if (partCount >= MOST_PARTS) {
                return false;
            }
            int wanted = partCount * 2;
            lefts = Arrays.copyOf(lefts, wanted);
            rights = Arrays.copyOf(rights, wanted);
            lengths = Arrays.copyOf(lengths, wanted);
            signs = Arrays.copyOf(signs, wanted);
            powers = Arrays.copyOf(powers, wanted);
            marks = Arrays.copyOf(marks, wanted);
            return true;
        }

        /** A part of two others, or the other one if one is NONE. */
        int join(int left, int right) {
            if (left == NONE || right == NONE || !reserve()) {
                return left == NONE ? right : left;
            }
            int mark = counts.mark();
            long length = counts.store(counts.plus(lengths[left], lengths[right]));
            counts.release(mark);
            return add(left, right, length, marks[left] & marks[right] & IDLE);
        }

        private int add(int left, int right, long length, int mark) {
            int part = partCount;
            partCount++;
            lefts[part] = left;
            rights[part] = right;
            lengths[part] = length;
            marks[part] = (byte) mark;
            return part;
        }

        // ---- signs: what rows that are alike have in common

        void signAll() {
            while (signedCount < partCount) {
                int left = lefts[signedCount];
                int right = rights[signedCount];
                if (left == NONE) {
                    long letter = receivers[right] * WAYS + ways[right] + 1;
                    signs[signedCount] = letter % HIGH_PRIME << 32 | letter % LOW_PRIME;
                    powers[signedCount] = BASE;
                } else {
                    signs[signedCount] = reckon(signs[left], powers[right], signs[right]);
                    powers[signedCount] = reckon(powers[left], powers[right], 0);
                }
                signedCount++;
            }
        }

        boolean isLike(int part, int other) {
            return signs[part] == signs[other] && counts.isEqual(lengths[part], lengths[other]);
        }

        /** The sign of a row with a sign and a part behind it. */
        long signBehind(long sign, int part) {
            return reckon(sign, powers[part], signs[part]);
        }

        /** The sign of the first targets of a part. */
        long signOfFirst(int whole, long count) {
            int mark = counts.mark();
            int part = whole;
            long missing = count;
            long sign = 0;
            for (int i = 0; i < DEEPEST_PART && missing > 0 && counts.isLess(missing, lengths[part]); i++) {
                int left = lefts[part];
                if (counts.isLess(missing, lengths[left])) {
                    part = left;
                } else {
                    sign = reckon(sign, powers[left], signs[left]);
                    missing = counts.keep(counts.minus(missing, lengths[left]), mark);
                    part = rights[part];
                }
            }
            counts.release(mark);
            return missing > 0 ? reckon(sign, powers[part], signs[part]) : sign;
        }

        /** A product and a sum of signs. */
        static long reckon(long one, long factor, long added) {
            long high = ((one >>> 32) * (factor >>> 32) + (added >>> 32)) % HIGH_PRIME;
            long low = ((one & LOW_HALF) * (factor & LOW_HALF) + (added & LOW_HALF)) % LOW_PRIME;
            return high << 32 | low;
        }
    }

    /**
     * Looks for the last place of a pattern in a row, and takes it out, however long both are. For each part, it
     * is told where the pattern lies last in it, and with which first targets of the pattern, but not all, the part
     * ends. How many these are is kept as ladders, with the same step between the numbers: a row that ends with two
     * of the beginnings of the pattern repeats itself at the step between them, as far as the longer one reaches.
     */
    private static final class Search {
        private static final int FIRST_SIZE = 64;
        private static final int MOST_LADDERS = 1 << 20;

        // The rungs of a short ladder, at most so many, are tried one by one.
        private static final int SHORT = 4;
        private static final int FEW = (1 << SHORT) + 1;

        // Where the pattern lies in a part: all of it, or across its two parts, with so many targets in the left one.
        private static final long WHOLE = 0;
        private static final long NOWHERE = -1;
        private static final long IN_LEFT = -2;
        private static final long IN_RIGHT = -3;
        private static final long WANTED = -4;
        private static final long UNWANTED = -5;

        private final Rows rows;
        private final Counts counts;
        private final long[] squares = new long[Counts.BITS];
        private int pattern = NONE;
        private long length = 0;
        private long[] places = new long[FIRST_SIZE];
        private int[] starts = new int[FIRST_SIZE];
        private int[] ends = new int[FIRST_SIZE];
        // A ladder goes from its first number to its top; its step is 0 if they are the same.
        private long[] firsts = new long[FIRST_SIZE];
        private long[] steps = new long[FIRST_SIZE];
        private long[] tops = new long[FIRST_SIZE];
        private int ladderCount = 0;
        // How far the pattern repeats itself at the steps that were asked for.
        private long[] knownSteps = new long[FIRST_SIZE];
        private long[] reaches = new long[FIRST_SIZE];
        private int knownCount = 0;
        private boolean isShort = false;
        private long reach = 0;
        private long repeated = 0;
        private final int[] above = new int[Rows.DEEPEST_PART];
        private final int[] kept = new int[Rows.DEEPEST_PART];

        Search(Rows rows) {
            this.rows = rows;
            counts = rows.counts;
            squares[0] = Rows.BASE;
            for (int i = 1; i < squares.length; i++) {
                squares[i] = Rows.reckon(squares[i - 1], squares[i - 1], 0);
            }
        }

        /** The one delegate without the last part of its row that is like the row of the other. */
        long without(long one, long other) {
            int row = rows.rootOf(one);
            int less = rows.rootOf(other);
            if (row == NONE || less == NONE || counts.isLess(rows.lengthOf(row), rows.lengthOf(less))) {
                return one;
            }
            int mark = counts.mark();
            int stored = counts.stored();
            rows.signAll();
            begin(row, less);
            for (int i = 0; i <= row; i++) {
                if (places[i] == WANTED) {
                    int left = rows.leftOf(i);
                    int right = rows.rightOf(i);
                    climb(i, left, right);
                    long across = 0;
                    for (int k = left < 0 ? 0 : starts[left]; left >= 0 && k < ends[left]; k++) {
                        measure(k, right);
                        climbOn(i, k, right);
                        across = across > 0 ? across : counts.store(across(k, right));
                        counts.release(mark);
                    }
                    settle(i, left, right, across);
                }
            }
            boolean isFound = places[row] != NOWHERE;
            long made = isFound ? rows.row(cut(row, stored)) : one;
            counts.release(mark);
            if (!isFound) {
                counts.drop(stored);
            }
            return made;
        }

        /** Begins to look for a pattern in a row: all parts of this are wanted. */
        private void begin(int row, int sought) {
            pattern = sought;
            length = rows.lengthOf(sought);
            ladderCount = 0;
            knownCount = 0;
            if (places.length <= row) {
                places = new long[row * 2];
                starts = new int[row * 2];
                ends = new int[row * 2];
            }
            Arrays.fill(places, 0, row + 1, UNWANTED);
            places[row] = WANTED;
            for (int i = row; i >= 0; i--) {
                if (places[i] == WANTED && rows.leftOf(i) >= 0) {
                    places[rows.leftOf(i)] = WANTED;
                    places[rows.rightOf(i)] = WANTED;
                }
            }
        }

        // ---- where the pattern lies

        /** Tells where the pattern lies last in a part, when this is known of its two parts. */
        private void settle(int part, int left, int right, long across) {
            places[part] = NOWHERE;
            if (rows.isLike(part, pattern)) {
                places[part] = WHOLE;
            } else if (left >= 0 && places[right] != NOWHERE) {
                places[part] = IN_RIGHT;
            } else if (left >= 0) {
                places[part] = across > 0 ? across : places[left] == NOWHERE ? NOWHERE : IN_LEFT;
            }
        }

        /** The least rung of a measured ladder behind which the right part begins with all else, or 0. */
        private long across(int ladder, int right) {
            long rung = firsts[ladder];
            for (int i = 0; isShort && i < FEW; i++) {
                if (rung == 0 || isAcross(rung, right)) {
                    return rung;
                }
                rung = rungBehind(ladder, rung);
            }
            if (isShort) {
                return 0;
            }
            if (!counts.isLess(reach, length)) {
                return rungFrom(ladder, counts.minus(length, repeated));
            }
            long only = onlyRung();
            return isOn(ladder, only) && isAcross(only, right) ? only : 0;
        }

        private boolean isAcross(long rung, int right) {
            long behind = counts.minus(length, rung);
            return !counts.isLess(rows.lengthOf(right), behind) && areAlike(pattern, rung, right, behind);
        }

        // ---- what is left of a row when what was found in it is taken out

        /** What is left of a row; all that was stored for the search is given up first. */
        private int cut(int row, int stored) {
            int depth = 0;
            int at = row;
            while (depth < above.length && (places[at] == IN_LEFT || places[at] == IN_RIGHT)) {
                above[depth] = at;
                depth++;
                at = places[at] == IN_LEFT ? rows.leftOf(at) : rows.rightOf(at);
            }
            long across = counts.plus(Math.max(0, places[at]), 0);
            counts.drop(stored);
            int rest = NONE;
            if (across > 0) {
                int front = shorten(rows.leftOf(at), across, true);
                rest = rows.join(front, shorten(rows.rightOf(at), counts.minus(length, across), false));
            }
            for (int i = depth - 1; i >= 0; i--) {
                int part = above[i];
                boolean isLeft = places[part] == IN_LEFT;
                rest = isLeft ? rows.join(rest, rows.rightOf(part)) : rows.join(rows.leftOf(part), rest);
            }
            return rest;
        }

        /** A part without so many of its targets, the last or the first ones. */
        private int shorten(int whole, long count, boolean isEnd) {
            int mark = counts.mark();
            int depth = 0;
            int part = whole;
            long less = count;
            for (int i = 0; i < kept.length && less > 0 && counts.isLess(less, rows.lengthOf(part)); i++) {
                int shortened = isEnd ? rows.rightOf(part) : rows.leftOf(part);
                int other = isEnd ? rows.leftOf(part) : rows.rightOf(part);
                if (counts.isLess(less, rows.lengthOf(shortened))) {
                    kept[depth] = other;
                    depth++;
                    part = shortened;
                } else {
                    less = counts.keep(counts.minus(less, rows.lengthOf(shortened)), mark);
                    part = other;
                }
            }
            int rest = less > 0 ? NONE : part;
            for (int i = depth - 1; i >= 0; i--) {
                rest = isEnd ? rows.join(kept[i], rest) : rows.join(rest, kept[i]);
            }
            return rest;
        }

        // ---- ladders

        /** Begins the ladders of a part with those of its right part. */
        private void climb(int part, int left, int right) {
            starts[part] = ladderCount;
            ends[part] = ladderCount;
            if (length == 1) {
                return;
            }
            if (left == NONE) {
                if (areAlike(pattern, 0, part, 1)) {
                    add(part, 1, 0, 1);
                }
                return;
            }
            if (!counts.isLess(rows.lengthOf(right), length)) {
                starts[part] = starts[right];
                ends[part] = ends[right];
                return;
            }
            for (int i = starts[right]; i < ends[right]; i++) {
                add(part, firsts[i], steps[i], tops[i]);
            }
        }

        /** Adds the rungs of a measured ladder of the left part with which the pattern goes on as the right part. */
        private void climbOn(int part, int ladder, int right) {
            long more = rows.lengthOf(right);
            if (!counts.isLess(more, length)) {
                return;
            }
            if (isShort) {
                long rung = firsts[ladder];
                for (int i = 0; i < FEW && rung > 0; i++) {
                    climbFrom(part, rung, right);
                    rung = rungBehind(ladder, rung);
                }
            } else if (!counts.isLess(repeated, more)) {
                climbAll(part, ladder, more);
            } else if (isOn(ladder, onlyRung())) {
                climbFrom(part, onlyRung(), right);
            }
        }

        private void climbFrom(int part, long rung, int right) {
            long more = rows.lengthOf(right);
            long next = counts.plus(rung, more);
            if (counts.isLess(next, length) && areAlike(pattern, rung, right, more)) {
                add(part, next, 0, next);
            }
        }

        /** Adds the rungs of a ladder, that much higher, up to where the pattern ends or repeats itself no more. */
        private void climbAll(int part, int ladder, long more) {
            long first = counts.plus(firsts[ladder], more);
            long most = counts.least(reach, counts.minus(length, 1));
            if (!counts.isLess(most, first)) {
                long top = counts.least(counts.plus(tops[ladder], more), most);
                top = counts.minus(top, counts.rest(counts.minus(top, first), steps[ladder]));
                add(part, first, counts.isLess(first, top) ? steps[ladder] : 0, top);
            }
        }

        /** The rung with which the pattern ceases to repeat itself as the right part does, or 0. */
        private long onlyRung() {
            return counts.isLess(reach, repeated) ? 0 : counts.minus(reach, repeated);
        }

        /** The next higher rung of a ladder, or 0. */
        private long rungBehind(int ladder, long rung) {
            return counts.isLess(rung, tops[ladder]) ? counts.plus(rung, steps[ladder]) : 0;
        }

        private boolean isOn(int ladder, long number) {
            if (counts.isLess(number, firsts[ladder]) || counts.isLess(tops[ladder], number)) {
                return false;
            }
            return counts.rest(counts.minus(number, firsts[ladder]), steps[ladder]) == 0;
        }

        /** The least rung of a ladder that is not less than a number, or 0. */
        private long rungFrom(int ladder, long number) {
            long first = firsts[ladder];
            if (!counts.isLess(first, number)) {
                return first;
            }
            long over = counts.rest(counts.minus(number, first), steps[ladder]);
            long rung = over == 0 ? number : counts.plus(number, counts.minus(steps[ladder], over));
            return counts.isLess(tops[ladder], rung) ? 0 : rung;
        }

        /** Adds a ladder behind all others of a part, or to the last of them, if the steps are the same. */
        private void add(int part, long first, long step, long top) {
            int last = ladderCount - 1;
            if (ends[part] > starts[part]) {
                long gap = counts.minus(first, tops[last]);
                boolean isLast = steps[last] == 0 || counts.isEqual(steps[last], gap);
                if (isLast && (step == 0 || counts.isEqual(step, gap))) {
                    steps[last] = counts.store(gap);
                    tops[last] = counts.store(top);
                    return;
                }
            }
            if (ladderCount >= MOST_LADDERS) {
                return;
            }
            if (ladderCount >= firsts.length) {
                firsts = Arrays.copyOf(firsts, ladderCount * 2);
                steps = Arrays.copyOf(steps, ladderCount * 2);
                tops = Arrays.copyOf(tops, ladderCount * 2);
            }
            firsts[ladderCount] = counts.store(first);
            steps[ladderCount] = counts.store(step);
            tops[ladderCount] = counts.store(top);
            ladderCount++;
            ends[part]++;
        }

        // ---- what goes on alike

        /** Finds how far the pattern and the right part repeat themselves at the step of a ladder, if it is long. */
        private void measure(int ladder, int right) {
            long step = steps[ladder];
            long few = step;
            for (int i = 0; i < SHORT; i++) {
                few = counts.plus(few, few);
            }
            isShort = !counts.isLess(counts.plus(firsts[ladder], few), tops[ladder]);
            if (isShort) {
                return;
            }
            int known = placeOfStep(step);
            if (known == knownCount) {
                knownSteps[known] = step;
                long common = common(pattern, step, pattern, counts.minus(length, step));
                reaches[known] = counts.store(counts.plus(step, common));
                knownCount++;
            }
            reach = reaches[known];
            long most = counts.least(rows.lengthOf(right), length);
            long once = counts.least(step, most);
            repeated = common(pattern, counts.minus(tops[ladder], step), right, once);
            if (!counts.isLess(repeated, once) && counts.isLess(step, most)) {
                repeated = counts.plus(step, common(right, step, right, counts.minus(most, step)));
            }
        }

        /** Where a step is among those that were asked for, or where it will be. */
        private int placeOfStep(long step) {
            for (int i = knownCount - 1; i >= 0; i--) {
                if (counts.isEqual(knownSteps[i], step)) {
                    return i;
                }
            }
            if (knownCount >= knownSteps.length) {
                knownSteps = Arrays.copyOf(knownSteps, knownCount * 2);
                reaches = Arrays.copyOf(reaches, knownCount * 2);
            }
            return knownCount;
        }

        /** How many targets, at most so many, are alike from a place in one part on, and in another one. */
        private long common(int one, long place, int other, long most) {
            if (areAlike(one, place, other, most)) {
                return most;
            }
            int mark = counts.mark();
            long alike = 0;
            int part = other;
            long sign = rows.signOfFirst(one, place);
            for (int i = 0; i <= Rows.DEEPEST_PART && part >= 0; i++) {
                int left = rows.leftOf(part);
                int first = left < 0 ? part : left;
                long next = counts.plus(alike, rows.lengthOf(first));
                boolean isLong = counts.isLess(most, next);
                long end = isLong ? 0 : rows.signOfFirst(one, counts.plus(place, next));
                boolean isAlike = !isLong && end == rows.signBehind(sign, first);
                if (isAlike) {
                    sign = end;
                    part = left < 0 ? NONE : rows.rightOf(part);
                } else {
                    part = left;
                }
                alike = counts.keep(isAlike ? next : alike, mark);
            }
            return alike;
        }

        /** Whether so many targets are alike from a place in one part on, and in another one. */
        private boolean areAlike(int one, long place, int other, long count) {
            long power = Rows.ONE;
            for (int i = counts.bitsOf(count) - 1; i >= 0; i--) {
                if (counts.hasBit(count, i)) {
                    power = Rows.reckon(power, squares[i], 0);
                }
            }
            int mark = counts.mark();
            long end = rows.signOfFirst(one, counts.plus(place, count));
            counts.release(mark);
            return end == Rows.reckon(rows.signOfFirst(one, place), power, rows.signOfFirst(other, count));
        }
    }

    /** What a call still has to do when what it does at last is done: a step that leaves regions. */
    private static final class Pending {
        static final char JUMP = 'j';
        static final char RETURN = 'r';
        static final char HANDLE = 'h';
        static final char THROUGH = 't';

        Pending under = null;
        char way = JUMP;
        int step = 0;
        int nextRegion = 0;
        int endRegion = 0;
        int place = NONE;
        long value = NULL;
        int catcher = NONE;
        int catchRegion = NONE;
    }

    /** A call that is under way, or an iterator. */
    private static final class Frame {
        // What the call is of.
        static final char RUN = 'r';
        static final char METHOD = 'm';
        static final char READY = 's';
        static final char FILTER = 'w';
        static final char ITERATION = 'i';

        // How an iterator stands.
        static final int FRESH = 0;
        static final int STILL = 1;
        static final int GOING = 2;
        static final int OVER = 3;

        // Where the local 0 lies that is a structure which is not copied.
        static final int HERE = 0;
        static final int IN_BOX = 1;
        static final int IN_TARGET = 2;
        static final int IN_FRAME = 3;

        final long[] locals = new long[LOCALS];
        int self = HERE;
        int selfIndex = 0;
        Frame selfFrame = null;
        Body body = null;
        int at = 0;
        int argument = NONE;
        char role = RUN;
        int state = FRESH;
        boolean isEnding = false;
        Pending pending = null;

        void begin(Body begun, int typeArgument, char begunAs) {
            Arrays.fill(locals, NULL);
            bindSelf(HERE, 0, null);
            body = begun;
            at = 0;
            argument = typeArgument;
            role = begunAs;
            state = FRESH;
            isEnding = false;
        }

        void bindSelf(int where, int index, Frame frame) {
            self = where;
            selfIndex = index;
            selfFrame = frame;
        }
    }

    /** What a run tells when it has ended. */
    private static final class Outcome {
        // The argument in a piece is none, any reference (OWN), or one of the types.
        private static final int ARGUMENTS = MOST_TYPES + 2;

        // Calls that take no step can be more than an int tells.
        private static final int MOST_CALLS_TOLD = 0x7FFFFFFF;

        // How the statics of a type stand.
        static final int UNUSED = 0;
        static final int USED = 1;
        static final int SPOILT = 2;

        char end = '-';
        long value = NULL;
        int unhandled = 0;
        final int[] output = new int[MOST_STEPS];
        int outputCount = 0;
        int stepCount = 0;
        // A new piece takes a new step that calls, makes an iterator, or makes a target.
        private final int[] pieces = new int[MOST_THINGS];
        int pieceCount = 0;
        int callCount = 0;
        int boxCount = 0;
        int finalCount = 0;
        final long[] statics = new long[MOST_TYPES * STATICS];
        final int[] staticStates = new int[MOST_TYPES];
        final int[] staticFaults = new int[MOST_TYPES];

        void clear() {
            end = '-';
            value = NULL;
            unhandled = 0;
            outputCount = 0;
            stepCount = 0;
            pieceCount = 0;
            callCount = 0;
            boxCount = 0;
            finalCount = 0;
            Arrays.fill(statics, ZERO);
            Arrays.fill(staticStates, UNUSED);
            Arrays.fill(staticFaults, 0);
        }

        void put(int number) {
            if (outputCount < MOST_STEPS) {
                output[outputCount] = number;
                outputCount++;
            }
        }

        void notePiece(int method, int name, int argument) {
            int piece = (method * NAMES + name) * ARGUMENTS + argument - OWN;
            for (int i = 0; i < pieceCount; i++) {
                if (pieces[i] == piece) {
                    return;
                }
            }
            if (pieceCount < MOST_THINGS) {
                pieces[pieceCount] = piece;
                pieceCount++;
            }
        }

        void addCalls(int count) {
            callCount = Math.min(callCount, MOST_CALLS_TOLD - count) + count;
        }

        boolean tellsAs(Outcome other) {
            if (end != other.end || stepCount != other.stepCount || outputCount != other.outputCount) {
                return false;
            }
            for (int i = 0; i < outputCount; i++) {
                if (output[i] != other.output[i]) {
                    return false;
                }
            }
            if (end == 'u') {
                return unhandled == other.unhandled;
            }
            return end != 'r' || kindOf(value) == kindOf(other.value)
                && (kindOf(value) != NUMBER || value == other.value);
        }
    }

    /** Carries bodies out, one run after another. */
    private static final class Machine {
        // The exception left an iterator that stood still since its handler was found.
        private static final int STALE = -2;

        private final Plan plan;
        private final Types types;
        private final Store store = new Store();
        private final Rows rows = new Rows();
        private Search search = null;
        private final Frame[] stack = new Frame[MOST_CALLS];
        private final Frame[] plainFrames = new Frame[MOST_CALLS];
        private int depth = 0;
        private final Frame[] iterators = new Frame[MOST_THINGS];
        private int iteratorCount = 0;
        private Pending spare = null;
        private Outcome out = null;
        private boolean isWritten = false;
        private long result = NULL;
        private int thrown = 0;
        private int catcher = NONE;
        private int catchRegion = NONE;
        private int foundMethod = NONE;
        private int foundArgument = NONE;

        Machine(Plan plan, Types types) {
            this.plan = plan;
            this.types = types;
            for (int i = 0; i < MOST_CALLS; i++) {
                plainFrames[i] = new Frame();
            }
        }

        void perform(Body body, int argument, boolean isWrittenOut, Outcome outcome) {
            outcome.clear();
            store.clear();
            rows.clear();
            depth = 0;
            iteratorCount = 0;
            out = outcome;
            isWritten = isWrittenOut;
            Frame frame = open(body, INT, Frame.RUN);
            frame.locals[1] = ofNumber(argument);
            int way = enter(frame);
            out.boxCount = store.boxCount;
            if (way == RETURNED) {
                out.end = 'r';
                out.value = result;
            } else if (way == UNHANDLED) {
                out.end = 'u';
                out.unhandled = thrown;
            } else {
                out.end = 'l';
            }
        }

        // ---- calls within one another

        private boolean isFull() {
            return depth >= MOST_CALLS;
        }

        /** A new call that has not begun; there must be room for it. */
        private Frame open(Body body, int argument, char role) {
            Frame frame = plainFrames[depth];
            drop(frame);
            frame.begin(body, argument, role);
            return frame;
        }

        private int enter(Frame frame) {
            stack[depth] = frame;
            depth++;
            int way = goThrough(frame);
            depth--;
            return way == LEFT ? UNWIND : way;
        }

        private int goThrough(Frame frame) {
            int way = GO_ON;
            for (int turn = 0; turn < MOST_TURNS && way == GO_ON; turn++) {
                way = frame.at < frame.body.stepCount ? step(frame) : end(frame);
                if (way == THROW) {
                    way = raise();
                }
                if (way == UNWIND) {
                    way = unwind(frame);
                }
            }
            return way == GO_ON ? LIMIT : way;
        }

        private int step(Frame frame) {
            if (out.stepCount >= MOST_STEPS) {
                return LIMIT;
            }
            out.stepCount++;
            int i = frame.at;
            int way = carryOut(frame, i);
            if (way == NEXT) {
                frame.at = i + 1;
                way = GO_ON;
            }
            return way;
        }

        private int carryOut(Frame frame, int i) {
            switch (frame.body.ops[i]) {
                case 'j':
                case 'z':
                case 'r':
                case 'e':
                case 'x':
                case 'y':
                case 'p':
                    return turn(frame, i);
                case '+':
                case '-':
                case '<':
                    return reckon(frame, i);
                case 'N':
                case 'd':
                case 'U':
                case 'T':
                    return useType(frame, i);
                case '.':
                case '!':
                    return useField(frame, i);
                case 'S':
                case 's':
                    return useStatic(frame, i);
                case 'C':
                    return call(frame, i);
                case 'G':
                    return makeIterator(frame, i);
                case 'E':
                    return goOn(frame, i);
                case 'Q':
                    return endIterator(frame, i);
                case 'D':
                    return makeTarget(frame, i);
                case 'P':
                case 'M':
                    return makeRow(frame, i);
                case 'I':
                    return callRow(frame, i);
                default:
                    return become(frame, i);
            }
        }

        /** The end of a body counts as a step if something is done at last there, so that no ring is endless. */
        private int end(Frame frame) {
            if (frame.body.isWatched(frame.at)) {
                if (out.stepCount >= MOST_STEPS) {
                    return LIMIT;
                }
                out.stepCount++;
            }
            return giveBack(frame, NULL);
        }

        // ---- what is thrown

        private int fail(int number) {
            thrown = number;
            return THROW;
        }

        /** Looks for a handler of what was thrown, with all calls still under way. */
        private int raise() {
            int number = thrown;
            for (int i = depth - 1; i >= 0; i--) {
                Frame frame = stack[i];
                int region = 0;
                int answer = 0;
                while (region < frame.body.regionCount && answer == 0) {
                    answer = accepts(frame, region, number);
                    region++;
                }
                thrown = number;
                if (answer == LIMIT) {
                    return LIMIT;
                }
                if (answer != 0) {
                    catcher = i;
                    catchRegion = region - 1;
                    return UNWIND;
                }
                if (frame.role == Frame.READY || frame.role == Frame.FILTER) {
                    catcher = NONE;
                    return UNWIND;
                }
            }
            return UNHANDLED;
        }

        /** 1 if a region handles a number thrown from where its call stands, 0 if not, or LIMIT. */
        private int accepts(Frame frame, int region, int number) {
            Body body = frame.body;
            if (!body.holds(region, frame.at) || body.letters[region] == 'f') {
                return 0;
            }
            int told = body.numbers[region];
            if (body.letters[region] == 'c') {
                return told == NONE || told == number ? 1 : 0;
            }
            return plan.hasBody(told) ? askFilter(frame, plan.bodies[told], number) : 0;
        }

        private int askFilter(Frame frame, Body filter, int number) {
            if (isFull()) {
                return 0;
            }
            Frame asked = open(filter, frame.argument, Frame.FILTER);
            bindTo(asked, frame, 0);
            asked.locals[1] = ofNumber(number);
            out.addCalls(1);
            int way = enter(asked);
            if (way == RETURNED) {
                return kindOf(result) == NUMBER && restOf(result) != 0 ? 1 : 0;
            }
            return way == UNWIND ? 0 : LIMIT;
        }

        /** What is thrown out of a step takes the place of all that was under way in this call. */
        private int unwind(Frame frame) {
            drop(frame);
            Body body = frame.body;
            if (catcher != depth - 1) {
                return leave(frame, Pending.THROUGH, NONE, body.regionCount, ofNumber(thrown));
            }
            int place = body.places[catchRegion];
            return leave(frame, Pending.HANDLE, place, catchRegion, ofNumber(thrown));
        }

        // ---- what is done at last

        /** Leaves regions of a call, from the step at which it stands, ahead of what is to be done then. */
        private int leave(Frame frame, char way, int place, int endRegion, long value) {
            Pending left = spare == null ? new Pending() : spare;
            spare = left.under;
            left.way = way;
            left.step = frame.at;
            left.nextRegion = 0;
            left.endRegion = endRegion;
            left.place = place;
            left.value = value;
            left.catcher = catcher;
            left.catchRegion = catchRegion;
            left.under = frame.pending;
            frame.pending = left;
            return proceed(frame);
        }

        /** Goes on with what is under way in a call: the next region that is left, or what comes behind all. */
        private int proceed(Frame frame) {
            Pending left = frame.pending;
            if (left == null) {
                return NEXT;
            }
            Body body = frame.body;
            for (int i = left.nextRegion; i < left.endRegion; i++) {
                if (body.letters[i] == 'f' && body.holds(i, left.step) && !body.holds(i, left.place)) {
                    left.nextRegion = i + 1;
                    frame.at = body.places[i];
                    out.finalCount++;
                    return GO_ON;
                }
            }
            frame.pending = left.under;
            left.under = spare;
            spare = left;
            return finish(frame, left);
        }

        private int finish(Frame frame, Pending left) {
            switch (left.way) {
                case Pending.RETURN:
                    result = left.value;
                    return RETURNED;
                case Pending.THROUGH:
                    thrown = restOf(left.value);
                    catcher = left.catcher;
                    catchRegion = left.catchRegion;
                    return LEFT;
                case Pending.HANDLE:
                    frame.locals[LOCALS - 1] = left.value;
                    frame.at = left.place;
                    return GO_ON;
                default:
                    frame.at = left.place;
                    return GO_ON;
            }
        }

        private void drop(Frame frame) {
            Pending left = frame.pending;
            while (left != null) {
                Pending under = left.under;
                left.under = spare;
                spare = left;
                left = under;
            }
            frame.pending = null;
        }

        private int giveBack(Frame frame, long value) {
            drop(frame);
            return leave(frame, Pending.RETURN, NONE, frame.body.regionCount, value);
        }

        // ---- locals

        private long get(Frame frame, int local) {
            if (local == 0) {
                switch (frame.self) {
                    case Frame.IN_BOX:
                        return store.inBox(frame.selfIndex);
                    case Frame.IN_TARGET:
                        return rows.receiverOf(frame.selfIndex);
                    case Frame.IN_FRAME:
                        return frame.selfFrame == null ? NULL : frame.selfFrame.locals[frame.selfIndex];
                    default:
                        break;
                }
            }
            return frame.locals[local];
        }

        private int set(Frame frame, int local, long value) {
            if (local == 0) {
                frame.bindSelf(Frame.HERE, 0, null);
            }
            frame.locals[local] = value;
            return NEXT;
        }

        /** Changes the structure in a local where it is. */
        private void replace(Frame frame, int local, long structure) {
            if (local == 0 && frame.self == Frame.IN_BOX) {
                store.putInBox(frame.selfIndex, structure);
            } else if (local == 0 && frame.self == Frame.IN_TARGET) {
                rows.setReceiver(frame.selfIndex, structure);
            } else if (local == 0 && frame.self == Frame.IN_FRAME && frame.selfFrame != null) {
                frame.selfFrame.locals[frame.selfIndex] = structure;
            } else {
                frame.locals[local] = structure;
            }
        }

        /** Makes the local 0 of a call what a local of another one is; a structure stays where it is. */
        private void bindTo(Frame frame, Frame from, int local) {
            long value = get(from, local);
            if (kindOf(value) != STRUCTURE) {
                frame.locals[0] = value;
            } else if (local == 0 && from.self != Frame.HERE) {
                frame.bindSelf(from.self, from.selfIndex, from.selfFrame);
            } else {
                frame.bindSelf(Frame.IN_FRAME, local, from);
            }
        }

        private boolean bindToBox(Frame frame, long receiver) {
            if (kindOf(receiver) != BOX) {
                return false;
            }
            frame.bindSelf(Frame.IN_BOX, restOf(receiver), null);
            return true;
        }

        // ---- steps on values

        private int become(Frame frame, int i) {
            Body body = frame.body;
            int a = body.as[i];
            int b = body.bs[i];
            switch (body.ops[i]) {
                case '=':
                    return set(frame, a, ofNumber(b));
                case ':':
                    return set(frame, a, get(frame, b));
                case '?':
                    return set(frame, a, ofNumber(get(frame, b) == get(frame, body.cs[i]) ? 1 : 0));
                case 'B':
                    long value = get(frame, b);
                    boolean isValue = kindOf(value) == NUMBER || kindOf(value) == STRUCTURE;
                    return set(frame, a, isValue ? store.box(value) : value);
                default:
                    return NEXT;
            }
        }

        private int reckon(Frame frame, int i) {
            long one = get(frame, frame.body.bs[i]);
            long other = get(frame, frame.body.cs[i]);
            if (kindOf(one) != NUMBER || kindOf(other) != NUMBER) {
                return fail(FAULT_WRONG);
            }
            char op = frame.body.ops[i];
            int number = restOf(one) < restOf(other) ? 1 : 0;
            if (op != '<') {
                number = op == '+' ? restOf(one) + restOf(other) : restOf(one) - restOf(other);
            }
            return set(frame, frame.body.as[i], ofNumber(number));
        }

        /** The steps on where a call goes on, and on what it lets out. */
        private int turn(Frame frame, int i) {
            Body body = frame.body;
            char op = body.ops[i];
            if (op == 'j') {
                return jump(frame, body.bs[i]);
            }
            if (op == 'e') {
                return proceed(frame);
            }
            long value = get(frame, body.as[i]);
            if (op == 'z') {
                return value == NULL || value == ZERO ? jump(frame, body.bs[i]) : NEXT;
            }
            if (op == 'r') {
                return giveBack(frame, value);
            }
            if (op == 'y') {
                return give(frame, value);
            }
            if (kindOf(value) != NUMBER) {
                return fail(FAULT_WRONG);
            }
            if (op == 'x') {
                return fail(restOf(value));
            }
            out.put(restOf(value));
            return NEXT;
        }

        private int jump(Frame frame, int place) {
            return leave(frame, Pending.JUMP, place, frame.body.regionCount, NULL);
        }

        private int useField(Frame frame, int i) {
            Body body = frame.body;
            int b = body.bs[i];
            int field = body.cs[i];
            long owner = get(frame, b);
            if (owner == NULL) {
                return fail(FAULT_NULL);
            }
            if (!Store.hasFields(owner)) {
                return fail(FAULT_WRONG);
            }
            if (body.ops[i] == '.') {
                return set(frame, body.as[i], store.field(owner, field));
            }
            long value = get(frame, body.as[i]);
            if (kindOf(owner) == STRUCTURE) {
                replace(frame, b, store.withField(owner, field, value));
            } else {
                store.setObjectField(owner, field, value);
            }
            return NEXT;
        }

        // ---- types in steps

        /** The type that a step names, made if it is new; or, if there is none, less than 0: less the fault. */
        private int typeInStep(Frame frame, int number) {
            if (number >= 0) {
                return types.isThere(number) ? number : -FAULT_WRONG;
            }
            if (frame.argument == NONE) {
                return -FAULT_LIMIT;
            }
            if (number == -1) {
                return frame.argument;
            }
            int index = -2 - number;
            if (!plan.hasKind(index) || !plan.kinds[index].hasParameter) {
                return -FAULT_WRONG;
            }
            Kind kind = plan.kinds[index];
            int type = types.allows(kind.limit, frame.argument) ? types.make(kind, frame.argument) : NONE;
            return type == NONE ? -FAULT_LIMIT : type;
        }

        private int useType(Frame frame, int i) {
            Body body = frame.body;
            char op = body.ops[i];
            int a = body.as[i];
            int type = typeInStep(frame, op == 'N' || op == 'd' ? body.bs[i] : body.cs[i]);
            if (type < 0) {
                return fail(-type);
            }
            if (op == 'd' || op == 'N' && types.isValue(type)) {
                return set(frame, a, firstOf(type));
            }
            if (op == 'N') {
                Kind kind = types.kinds[type];
                return kind == null || kind.letter != 'c' ? fail(FAULT_WRONG) : set(frame, a, store.newObject(type));
            }
            long value = get(frame, body.bs[i]);
            int own = store.typeOf(value);
            if (op == 'T') {
                return set(frame, a, ofNumber(own != NONE && types.fits(own, type) ? 1 : 0));
            }
            return unbox(frame, a, value, type);
        }

        private long firstOf(int type) {
            if (type == INT) {
                return ZERO;
            }
            return types.isValue(type) ? store.structure(type, ZERO, ZERO, ZERO) : NULL;
        }

        private int unbox(Frame frame, int a, long value, int type) {
            int own = store.typeOf(value);
            if (types.isValue(type)) {
                if (value == NULL) {
                    return fail(FAULT_NULL);
                }
                boolean isRight = kindOf(value) == BOX && own == type;
                return isRight ? set(frame, a, store.inBox(restOf(value))) : fail(FAULT_UNBOX);
            }
            boolean isRight = value == NULL || own != NONE && types.fits(own, type);
            return isRight ? set(frame, a, value) : fail(FAULT_UNBOX);
        }

        private int useStatic(Frame frame, int i) {
            Body body = frame.body;
            int type = typeInStep(frame, body.bs[i]);
            if (type < 0) {
                return fail(-type);
            }
            if (types.kinds[type] == null) {
                return fail(FAULT_WRONG);
            }
            int way = makeReady(type);
            if (way != NEXT) {
                return way;
            }
            int at = type * STATICS + body.cs[i];
            if (body.ops[i] == 'S') {
                return set(frame, body.as[i], out.statics[at]);
            }
            out.statics[at] = get(frame, body.as[i]);
            return NEXT;
        }

        /** Makes the statics of a type of a kind ready, if this is their first use. */
        private int makeReady(int type) {
            if (out.staticStates[type] == Outcome.SPOILT) {
                return fail(out.staticFaults[type]);
            }
            int ready = types.kinds[type].ready;
            if (out.staticStates[type] == Outcome.USED || !plan.hasBody(ready)) {
                return NEXT;
            }
            if (isFull()) {
                return fail(FAULT_LIMIT);
            }
            out.staticStates[type] = Outcome.USED;
            out.addCalls(1);
            int way = enter(open(plan.bodies[ready], types.arguments[type], Frame.READY));
            if (way == RETURNED) {
                return NEXT;
            }
            if (way != UNWIND) {
                return way;
            }
            out.staticStates[type] = Outcome.SPOILT;
            out.staticFaults[type] = thrown;
            return fail(thrown);
        }

        // ---- calls of methods

        /** Looks for the method that a receiver has for a kind and name; tells the fault, or 0. */
        private int seek(long receiver, int way) {
            if (receiver == NULL) {
                return FAULT_NULL;
            }
            int type = store.typeOf(receiver);
            Kind kind = type == NONE ? null : types.kinds[type];
            int through = way / 10;
            if (kind == null || !plan.hasKind(through) || (plan.allAbove(kind.index) >> through & 1) == 0) {
                return FAULT_WRONG;
            }
            foundMethod = plan.find(kind, plan.kinds[through], way % 10);
            if (foundMethod == NONE) {
                return FAULT_NO_BODY;
            }
            Kind owner = plan.kinds[foundMethod / MOST_BODIES];
            foundArgument = Plan.argumentFor(kind, types.arguments[type], owner);
            return foundArgument == MISSING ? FAULT_WRONG : 0;
        }

        private Body foundBody() {
            return plan.bodies[foundMethod % MOST_BODIES];
        }

        private void countPiece(int name) {
            int argument = foundArgument;
            if (!isWritten && argument != NONE && !types.isValue(argument)) {
                argument = OWN;
            }
            out.notePiece(foundMethod, name, argument);
        }

        /** A call of the method that was found, which has not begun. */
        private Frame openFound(int name, long argument) {
            countPiece(name);
            out.addCalls(1);
            Frame called = open(foundBody(), foundArgument, Frame.METHOD);
            called.locals[1] = argument;
            return called;
        }

        private int call(Frame frame, int i) {
            Body body = frame.body;
            long receiver = get(frame, body.bs[i]);
            int fault = seek(receiver, body.cs[i]);
            if (fault == 0 && isFull()) {
                fault = FAULT_LIMIT;
            }
            if (fault != 0) {
                return fail(fault);
            }
            Frame called = openFound(body.cs[i] % 10, get(frame, body.ds[i]));
            if (!bindToBox(called, receiver)) {
                bindTo(called, frame, body.bs[i]);
            }
            int way = enter(called);
            return way == RETURNED ? set(frame, body.as[i], result) : way;
        }

        // ---- delegates

        private int makeTarget(Frame frame, int i) {
            Body body = frame.body;
            long receiver = get(frame, body.bs[i]);
            int way = body.cs[i];
            boolean isIdle = seek(receiver, way) == 0 && foundBody().isEmpty();
            return set(frame, body.as[i], rows.single(receiver, way, isIdle));
        }

        private int makeRow(Frame frame, int i) {
            Body body = frame.body;
            long one = get(frame, body.bs[i]);
            long other = get(frame, body.cs[i]);
            if (!isRow(one) || !isRow(other)) {
                return fail(FAULT_WRONG);
            }
            if (body.ops[i] == 'P') {
                return set(frame, body.as[i], rows.joined(one, other));
            }
            if (search == null) {
                search = new Search(rows);
            }
            return set(frame, body.as[i], search.without(one, other));
        }

        private static boolean isRow(long value) {
            return value == NULL || kindOf(value) == DELEGATE;
        }

        private int callRow(Frame frame, int i) {
            Body body = frame.body;
            long delegate = get(frame, body.bs[i]);
            if (delegate == NULL) {
                return fail(FAULT_NULL);
            }
            if (kindOf(delegate) != DELEGATE) {
                return fail(FAULT_WRONG);
            }
            int row = rows.rootOf(delegate);
            int part = row;
            int way = RETURNED;
            int mark = rows.counts.mark();
            for (long at = 0; way == RETURNED && rows.isBefore(at, row); at = rows.placeBehind(at, part, mark)) {
                part = rows.partAt(row, at);
                way = rows.isIdle(part) ? callIdle(part) : callTarget(frame, rows.targetOf(part), body.cs[i]);
            }
            rows.counts.release(mark);
            return way == RETURNED ? set(frame, body.as[i], result) : way;
        }

        /** Calls all targets of a part whose calls take no step; no run could end that called them one by one. */
        private int callIdle(int part) {
            if (isFull()) {
                return fail(FAULT_LIMIT);
            }
            if (rows.ask(part)) {
                for (int i = part; i >= 0; i--) {
                    notePieceOf(rows.answer(i));
                }
            }
            out.addCalls(rows.counts.inInt(rows.lengthOf(part)));
            result = NULL;
            return RETURNED;
        }

        private void notePieceOf(int target) {
            if (target != NONE && seek(rows.receiverOf(target), rows.wayOf(target)) == 0) {
                countPiece(rows.wayOf(target) % 10);
            }
        }

        private int callTarget(Frame frame, int target, int local) {
            long receiver = rows.receiverOf(target);
            int fault = seek(receiver, rows.wayOf(target));
            if (fault == 0 && isFull()) {
                fault = FAULT_LIMIT;
            }
            if (fault != 0) {
                return fail(fault);
            }
            Frame called = openFound(rows.wayOf(target) % 10, get(frame, local));
            if (kindOf(receiver) == STRUCTURE) {
                called.bindSelf(Frame.IN_TARGET, target, null);
            } else if (!bindToBox(called, receiver)) {
                called.locals[0] = receiver;
            }
            return enter(called);
        }

        // ---- iterators

        private int makeIterator(Frame frame, int i) {
            Body body = frame.body;
            long receiver = get(frame, body.bs[i]);
            int fault = seek(receiver, body.cs[i]);
            if (fault != 0) {
                return fail(fault);
            }
            if (iteratorCount >= MOST_THINGS) {
                return NEXT;
            }
            countPiece(body.cs[i] % 10);
            if (iterators[iteratorCount] == null) {
                iterators[iteratorCount] = new Frame();
            }
            Frame made = iterators[iteratorCount];
            drop(made);
            made.begin(foundBody(), foundArgument, Frame.ITERATION);
            made.locals[1] = get(frame, body.ds[i]);
            if (!bindToBox(made, receiver)) {
                made.locals[0] = receiver;
            }
            iteratorCount++;
            return set(frame, body.as[i], valueOf(ITERATOR, iteratorCount - 1));
        }

        /** What a value throws that should be an iterator which is not going on, or 0. */
        private int iteratorFault(long value) {
            if (value == NULL) {
                return FAULT_NULL;
            }
            if (kindOf(value) != ITERATOR || iterators[restOf(value)] == null) {
                return FAULT_WRONG;
            }
            return iterators[restOf(value)].state == Frame.GOING ? FAULT_ITERATOR : 0;
        }

        private int goOn(Frame frame, int i) {
            Body body = frame.body;
            long value = get(frame, body.bs[i]);
            int fault = iteratorFault(value);
            if (fault != 0) {
                return fail(fault);
            }
            Frame iterator = iterators[restOf(value)];
            if (iterator.state == Frame.OVER) {
                return set(frame, body.as[i], ZERO);
            }
            if (isFull()) {
                return fail(FAULT_LIMIT);
            }
            if (iterator.state == Frame.STILL) {
                iterator.at++;
            }
            iterator.state = Frame.GOING;
            int way = enter(iterator);
            if (way == GAVE) {
                iterator.state = Frame.STILL;
                set(frame, body.as[i], ofNumber(1));
                return set(frame, body.cs[i], result);
            }
            iterator.state = Frame.OVER;
            return way == RETURNED ? set(frame, body.as[i], ZERO) : passOn(way);
        }

        private int endIterator(Frame frame, int i) {
            long value = get(frame, frame.body.as[i]);
            int fault = iteratorFault(value);
            if (fault != 0) {
                return fail(fault);
            }
            Frame iterator = iterators[restOf(value)];
            int way = RETURNED;
            if (iterator.state == Frame.STILL && iterator.body.isWatched(iterator.at)) {
                if (isFull()) {
                    return fail(FAULT_LIMIT);
                }
                iterator.state = Frame.GOING;
                iterator.isEnding = true;
                giveBack(iterator, NULL);
                way = enter(iterator);
            }
            iterator.state = Frame.OVER;
            return way == RETURNED ? NEXT : passOn(way);
        }

        /** An exception whose handler was found ahead of a rest is thrown anew from the step that ended the rest. */
        private int passOn(int way) {
            return way == UNWIND && catcher == STALE ? fail(thrown) : way;
        }

        private int give(Frame frame, long value) {
            if (frame.role != Frame.ITERATION) {
                return fail(FAULT_ITERATOR);
            }
            // Nobody asks an iterator that is over: it goes on with what it has to do at last.
            if (frame.isEnding) {
                return NEXT;
            }
            for (Pending left = frame.pending; left != null; left = left.under) {
                if (left.way == Pending.THROUGH) {
                    left.catcher = STALE;
                }
            }
            result = value;
            return GAVE;
        }
    }
}
