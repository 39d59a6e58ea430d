import java.util.ArrayDeque;
import java.util.ArrayList;
import java.util.HashSet;
import java.util.List;
import java.util.NoSuchElementException;
import java.util.Set;

/**
 * A second reading of the document, written for plainness alone: structures are objects that are copied,
 * delegates are lists, and what is thrown is thrown. The random tests hold Reifytown against it.
 */
final class PlainTown {
    // ---- kinds and types

    static final class K {
        int no; char letter, variance, limit; boolean par;
        K parent; int parentArg;
        List<K> ifs = new ArrayList<>(); List<Integer> ifArgs = new ArrayList<>();
        char[] ml = new char[6]; int[] mb = new int[6]; int methods;
        int[][] told = new int[10][6]; int tolds; int ready = -1;
    }

    record T(K kind, int arg) { }

    final List<K> kinds = new ArrayList<>();
    final List<T> types = new ArrayList<>(List.of(new T(null, -1), new T(null, -2)));
    final List<B> bodies = new ArrayList<>();

    static final class B {
        List<int[]> steps = new ArrayList<>();
        List<int[]> regions = new ArrayList<>();
    }

    int addKind(char l, boolean p, char v, char m) {
        if ("csi".indexOf(l) < 0 || "+-=".indexOf(v) < 0 || "vr-".indexOf(m) < 0) throw new IllegalArgumentException();
        if (v != '=' && !(l == 'i' && p)) throw new IllegalArgumentException();
        if (m != '-' && !p) throw new IllegalArgumentException();
        if (kinds.size() == 10) throw new IllegalStateException();
        K k = new K(); k.no = kinds.size(); k.letter = l; k.par = p; k.variance = v; k.limit = m;
        for (int[] r : k.told) java.util.Arrays.fill(r, -1);
        kinds.add(k);
        return k.no;
    }

    boolean noKind(int k) { return k < 0 || k >= kinds.size(); }
    boolean noType(int t) { return t < 0 || t >= types.size(); }
    boolean noBody(int b) { return b < 0 || b >= bodies.size(); }
    boolean made(K k) { return types.stream().anyMatch(t -> t.kind == k); }
    boolean value(int t) { return t == 0 || t > 1 && types.get(t).kind.letter == 's'; }
    boolean ok(char limit, int t) { return limit == '-' || (limit == 'v') == value(t); }

    void above(int kind, int other, int arg, char need) {
        if (noKind(kind) || noKind(other) || arg < -2 || arg >= types.size()) throw new IndexOutOfBoundsException();
        K k = kinds.get(kind), o = kinds.get(other);
        if (need == 'c' && k.letter != 'c' || o.letter != need || other >= kind) throw new IllegalArgumentException();
        if (o.par == (arg == -1) || arg == -2 && !k.par) throw new IllegalArgumentException();
        if (arg >= 0 && !ok(o.limit, arg) || arg == -2 && o.limit != '-' && o.limit != k.limit)
            throw new UnsupportedOperationException();
    }

    int setParent(int kind, int parent, int arg) {
        above(kind, parent, arg, 'c');
        K k = kinds.get(kind);
        if (k.parent != null || made(k)) throw new IllegalStateException();
        k.parent = kinds.get(parent); k.parentArg = arg;
        return (int) kinds.stream().filter(x -> x.parent == k.parent).count();
    }

    int addInterface(int kind, int other, int arg) {
        above(kind, other, arg, 'i');
        K k = kinds.get(kind);
        if (k.ifs.size() == 3 || k.ifs.contains(kinds.get(other)) || made(k)) throw new IllegalStateException();
        k.ifs.add(kinds.get(other)); k.ifArgs.add(arg);
        return k.ifs.size();
    }

    int depth(int t) { return t < 0 ? 0 : 1 + (t < 2 ? 0 : depth(types.get(t).arg)); }

    /** -1 if the limit does not allow it, -2 if there is no room. */
    int make(K k, int arg) {
        if (arg >= 0 && !ok(k.limit, arg)) return -1;
        int i = types.indexOf(new T(k, arg));
        if (i >= 0) return i;
        if (types.size() == 60 || depth(arg) + 1 > 5) return -2;
        types.add(new T(k, arg));
        return types.size() - 1;
    }

    int type(int kind, int arg) {
        if (noKind(kind) || arg != -1 && noType(arg)) throw new IndexOutOfBoundsException();
        if (kinds.get(kind).par == (arg == -1)) throw new IllegalArgumentException();
        int t = make(kinds.get(kind), arg);
        if (t == -1) throw new UnsupportedOperationException();
        if (t == -2) throw new IllegalStateException();
        return t;
    }

    int types() { return types.size(); }

    boolean isBelow(int a, int b) {
        if (noType(a) || noType(b)) throw new IndexOutOfBoundsException();
        return below(types.get(a), types.get(b), new HashSet<>());
    }

    boolean below(T a, T b, Set<List<T>> seen) {
        if (a.equals(b) || b.equals(types.get(1))) return true;
        if (a.kind == null || !seen.add(List.of(a, b))) return false;
        for (T up : ups(a)) if (below(up, b, seen)) return true;
        if (a.kind == b.kind && a.kind.letter == 'i' && a.kind.par && !value(a.arg) && !value(b.arg)) {
            T x = types.get(a.arg), y = types.get(b.arg);
            if (a.kind.variance == '+') return below(x, y, seen);
            if (a.kind.variance == '-') return below(y, x, seen);
        }
        return false;
    }

    List<T> ups(T t) {
        List<T> r = new ArrayList<>();
        for (int i = 0; i < t.kind.ifs.size(); i++)
            r.add(new T(t.kind.ifs.get(i), t.kind.ifArgs.get(i) == -2 ? t.arg : t.kind.ifArgs.get(i)));
        if (t.kind.parent != null) r.add(new T(t.kind.parent, t.kind.parentArg == -2 ? t.arg : t.kind.parentArg));
        return r;
    }

    // ---- methods and code

    static void closure(K k, boolean parents, Set<K> into) {
        for (K i : k.ifs) { into.add(i); closure(i, parents, into); }
        if (parents && k.parent != null) { into.add(k.parent); closure(k.parent, true, into); }
    }

    static Set<K> own(K k) { Set<K> s = new HashSet<>(); closure(k, false, s); return s; }
    static Set<K> all(K k) { Set<K> s = new HashSet<>(); s.add(k); closure(k, true, s); return s; }

    static K near(K k, int name) {
        while (k != null && k.ml[name] == 0) k = k.parent;
        return k;
    }

    int addMethod(int kind, int name, char l, int body) {
        if (noKind(kind) || (l == 'a' ? body != -1 : noBody(body))) throw new IndexOutOfBoundsException();
        K k = kinds.get(kind);
        if (name < 0 || name > 5 || l == 0 || (k.letter == 'i' ? "ad" : "von").indexOf(l) < 0)
            throw new IllegalArgumentException();
        if (l == 'o') {
            K n = k.parent == null ? null : near(k.parent, name);
            if (n == null || n.ml[name] == 'n') throw new UnsupportedOperationException();
        }
        if (k.ml[name] != 0) throw new IllegalStateException();
        k.ml[name] = l; k.mb[name] = body;
        return ++k.methods;
    }

    int tell(int kind, int other, int name, int body) {
        if (noKind(kind) || noKind(other) || noBody(body)) throw new IndexOutOfBoundsException();
        if (name < 0 || name > 5 || kinds.get(other).letter != 'i') throw new IllegalArgumentException();
        K k = kinds.get(kind);
        if (!own(k).contains(kinds.get(other))) throw new UnsupportedOperationException();
        if (k.told[other][name] != -1) throw new IllegalStateException();
        k.told[other][name] = body;
        return ++k.tolds;
    }

    int setReady(int kind, int body) {
        if (noKind(kind) || body != -1 && noBody(body)) throw new IndexOutOfBoundsException();
        int was = kinds.get(kind).ready;
        kinds.get(kind).ready = body;
        return was;
    }

    int addBody() {
        if (bodies.size() == 14) throw new IllegalStateException();
        bodies.add(new B());
        return bodies.size() - 1;
    }

    int addStep(int body, char op, int a, int b, int c, int d) {
        if (noBody(body)) throw new IndexOutOfBoundsException();
        if (op == 0 || "=:+-<?jzNd.!BUTCGEQySsDPMIxrep".indexOf(op) < 0) throw new IllegalArgumentException();
        boolean bad = false;
        if ("je".indexOf(op) < 0) bad |= a < 0 || a > 5;
        if (":+-<?.!BUTCGEDPMI".indexOf(op) >= 0) bad |= b < 0 || b > 5;
        if ("+-<?EPMI".indexOf(op) >= 0) bad |= c < 0 || c > 5;
        if ("CG".indexOf(op) >= 0) bad |= d < 0 || d > 5;
        if ("jz".indexOf(op) >= 0) bad |= b < 0 || b > 24;
        if (".!".indexOf(op) >= 0) bad |= c < 0 || c > 2;
        if ("Ss".indexOf(op) >= 0) bad |= c < 0 || c > 1;
        if ("CGD".indexOf(op) >= 0) bad |= c < 0 || c > 95 || c % 10 > 5;
        if (bad) throw new IllegalArgumentException();
        B x = bodies.get(body);
        if (x.steps.size() == 24) throw new IllegalStateException();
        x.steps.add(new int[] {op, a, b, c, d});
        return x.steps.size() - 1;
    }

    int addRegion(int body, int first, int last, char l, int number, int place) {
        if (noBody(body) || l == 'w' && noBody(number)) throw new IndexOutOfBoundsException();
        if ("fcw".indexOf(l) < 0 || first < 0 || first > last || last > 23 || place < 0 || place > 23
                || first <= place && place <= last) throw new IllegalArgumentException();
        B x = bodies.get(body);
        if (x.regions.size() == 4) throw new IllegalStateException();
        x.regions.add(new int[] {first, last, l, number, place});
        return x.regions.size();
    }

    record M(K kind, int name, int body) { }

    M find(K r, K s, int name) {
        if (s.letter != 'i') return bySlot(r, s, name);
        for (K k = r; k != null; k = k.parent) {
            if (k.told[s.no][name] != -1) return new M(k, name, k.told[s.no][name]);
            if (own(k).contains(s) && near(k, name) != null) return bySlot(r, k, name);
        }
        List<M> all = new ArrayList<>();
        for (K i : all(r)) {
            if (i.letter != 'i') continue;
            if (i == s && i.ml[name] == 'd') all.add(new M(i, name, i.mb[name]));
            if (i.told[s.no][name] != -1) all.add(new M(i, name, i.told[s.no][name]));
        }
        for (M m : all)
            if (all.stream().allMatch(o -> o == m || own(m.kind).contains(o.kind))) return m;
        return null;
    }

    static K slot(K k, int name) {
        if (k.ml[name] == 'v') return k;
        K p = k.parent;
        while (p.ml[name] != 'v') p = p.parent;
        return p;
    }

    static M bySlot(K r, K s, int name) {
        K n = near(s, name);
        if (n == null) return null;
        if (n.ml[name] != 'n') {
            K slot = slot(n, name);
            n = r;
            while (n.ml[name] == 0 || n.ml[name] == 'n' || slot(n, name) != slot) n = n.parent;
        }
        return new M(n, name, n.mb[name]);
    }

    int found(int type, int kind, int name) {
        if (noType(type) || noKind(kind)) throw new IndexOutOfBoundsException();
        if (name < 0 || name > 5) throw new IllegalArgumentException();
        K r = types.get(type).kind;
        if (r == null || r.letter == 'i' || !all(r).contains(kinds.get(kind))) return -1;
        M m = find(r, kinds.get(kind), name);
        return m == null ? -1 : m.body;
    }

    T typeFor(T t, K k) {
        if (t.kind == k) return t;
        for (T u : ups(t)) { T f = typeFor(u, k); if (f != null) return f; }
        return null;
    }

    // ---- runs

    static class V { char k; int n; T type; V[] f; V in; List<Target> row; F it; }
    static class Target { V r; int way; }
    static class Under { char way; int step, next, end, place, number; V value; F frame; boolean stale; }

    static class F {
        V[] l = new V[6]; B body; int at; int arg; char role; char state = 'f'; boolean ending;
        ArrayDeque<Under> under = new ArrayDeque<>();
    }

    static class Code extends RuntimeException { final int n; Code(int n) { super(null, null, false, false); this.n = n; } }
    static class Out extends RuntimeException { final char way; Out(char w) { super(null, null, false, false); way = w; } }
    static class Unwind extends RuntimeException {
        final F to; final int region, n;
        Unwind(F to, int region, int n) { super(null, null, false, false); this.to = to; this.region = region; this.n = n; }
    }

    static class Res {
        char end; V value; int unhandled; List<Integer> outs = new ArrayList<>(); int steps, calls, boxes, finals;
        V[][] st = new V[60][2]; char[] ready = new char[60]; int[] fault = new int[60];
        Set<List<Object>> pieces = new HashSet<>();
    }

    Res last; Res o; boolean written; ArrayList<F> stack = new ArrayList<>(); int runs; long all;

    static V num(int n) { V v = new V(); v.k = 'n'; v.n = n; return v; }

    /** A structure that holds itself over and over, or a row joined so, is more than this class can copy. */
    static final class TooBig extends RuntimeException { TooBig() { super(null, null, false, false); } }
    static int copies;

    static V copy(V v) {
        if (v == null || v.k != 's') return v;
        if (++copies > 200000) throw new TooBig();
        V c = new V(); c.k = 's'; c.type = v.type; c.f = new V[3];
        for (int i = 0; i < 3; i++) c.f[i] = copy(v.f[i]);
        return c;
    }

    static boolean same(V a, V b) {
        if (a == b) return true;
        if (a == null || b == null || a.k != b.k) return false;
        if (a.k == 'n') return a.n == b.n;
        if (a.k != 's' || !a.type.equals(b.type)) return false;
        for (int i = 0; i < 3; i++) if (!same(a.f[i], b.f[i])) return false;
        return true;
    }

    V zeros(char k, int t) {
        V v = new V(); v.k = k; v.type = types.get(t); v.f = new V[] {num(0), num(0), num(0)};
        return v;
    }

    V first(int t) { return t == 0 ? num(0) : value(t) ? zeros('s', t) : null; }

    Res perform(int body, int arg, boolean w) {
        o = new Res(); written = w; stack.clear();
        for (V[] s : o.st) { s[0] = num(0); s[1] = num(0); }
        F f = new F(); f.body = bodies.get(body); f.arg = 0; f.role = 'r'; f.l[1] = num(arg);
        try {
            o.value = enter(f); o.end = 'r';
        } catch (Out e) {
            o.end = e.way;
        }
        return o;
    }

    char go(int body, int arg, boolean w) {
        if (noBody(body)) throw new IndexOutOfBoundsException();
        last = perform(body, arg, w);
        runs++; all += last.steps;
        return last.end;
    }

    char run(int body, int arg) { return go(body, arg, false); }
    char runWritten(int body, int arg) { return go(body, arg, true); }

    static final V GAVE = new V();
    V given;

    V enter(F f) {
        stack.add(f);
        int size = stack.size();
        try {
            return loop(f);
        } finally {
            while (stack.size() >= size) stack.remove(stack.size() - 1);
        }
    }

    void count() {
        if (o.steps == 1000) throw new Out('l');
        o.steps++;
    }

    static boolean in(int[] r, int p) { return p >= r[0] && p <= r[1]; }
    static boolean watched(F f, int p) { return f.body.regions.stream().anyMatch(r -> r[2] == 'f' && in(r, p)); }

    static final V[] PASS = new V[1];
    RuntimeException passing;

    V loop(F f) {
        while (true) {
            V[] end = null;
            try {
                try {
                    if (f.at >= f.body.steps.size()) {
                        if (watched(f, f.at)) count();
                        end = leaveFor(f, null);
                    } else {
                        count();
                        int[] s = f.body.steps.get(f.at);
                        if (s[0] == 'y') {
                            if (f.role != 'i') throw new Code(5);
                            if (!f.ending) {
                                given = copy(f.l[s[1]]);
                                for (Under u : f.under) u.stale = true;
                                return GAVE;
                            }
                            f.at++;
                        } else {
                            end = step(f, s);
                        }
                    }
                } catch (Code c) {
                    throw search(c.n);
                }
            } catch (Unwind u) {
                f.under.clear();
                Under n = new Under();
                n.step = f.at; n.number = u.n; n.frame = u.to;
                if (u.to == f) {
                    n.way = 'h'; n.end = u.region; n.place = f.body.regions.get(u.region)[4];
                } else {
                    n.way = 't'; n.end = f.body.regions.size(); n.place = -1; n.value = num(u.region);
                }
                f.under.push(n);
                end = goOn(f);
            }
            if (end == PASS) throw passing;
            if (end != null) return end[0];
        }
    }

    V[] leaveFor(F f, V value) {
        f.under.clear();
        return leave(f, 'r', -1, value);
    }

    V[] leave(F f, char way, int place, V value) {
        Under n = new Under();
        n.way = way; n.step = f.at; n.end = f.body.regions.size(); n.place = place; n.value = value;
        f.under.push(n);
        return goOn(f);
    }

    V[] goOn(F f) {
        Under n = f.under.peek();
        while (n.next < n.end) {
            int[] r = f.body.regions.get(n.next++);
            if (r[2] == 'f' && in(r, n.step) && !in(r, n.place)) {
                o.finals++;
                f.at = r[4];
                return null;
            }
        }
        f.under.pop();
        if (n.way == 'r') return new V[] {n.value};
        if (n.way == 't') {
            passing = n.stale ? new Stale(n.number) : new Unwind(n.frame, n.value.n, n.number);
            return PASS;
        }
        if (n.way == 'h') f.l[5] = num(n.number);
        f.at = n.place;
        return null;
    }

    static class Stale extends RuntimeException { final int n; Stale(int n) { super(null, null, false, false); this.n = n; } }

    RuntimeException search(int number) {
        for (int i = stack.size() - 1; i >= 0; i--) {
            F f = stack.get(i);
            for (int r = 0; r < f.body.regions.size(); r++) {
                int[] x = f.body.regions.get(r);
                if (!in(x, f.at) || x[2] == 'f') continue;
                if (x[2] == 'c' ? x[3] == -1 || x[3] == number : filter(f, x[3], number)) return new Unwind(f, r, number);
            }
            if (f.role == 's' || f.role == 'w') return new Unwind(null, -1, number);
        }
        o.unhandled = number;
        return new Out('u');
    }

    boolean filter(F f, int body, int number) {
        if (stack.size() >= 12) return false;
        F g = new F(); g.role = 'w'; g.body = bodies.get(body); g.arg = f.arg; g.l[0] = f.l[0]; g.l[1] = num(number);
        o.calls++;
        try {
            V v = enter(g);
            return v != null && v.k == 'n' && v.n != 0;
        } catch (Unwind u) {
            return false;
        }
    }

    int typeIn(F f, int n) {
        if (n >= 0) { if (noType(n)) throw new Code(3); return n; }
        if (f.arg < 0) throw new Code(6);
        if (n == -1) return f.arg;
        if (noKind(-2 - n) || !kinds.get(-2 - n).par) throw new Code(3);
        int t = make(kinds.get(-2 - n), f.arg);
        if (t < 0) throw new Code(6);
        return t;
    }

    T typeOf(V v) {
        if (v == null) return null;
        if (v.k == 'b') v = v.in;
        return v.k == 'n' ? types.get(0) : v.type;
    }

    int number(V v) { if (v == null || v.k != 'n') throw new Code(3); return v.n; }

    boolean fits(V v, int t) { T x = typeOf(v); return x != null && below(x, types.get(t), new HashSet<>()); }

    record Call(M m, T t) { }

    Call seek(V r, int way) {
        if (r == null) throw new Code(1);
        if (noKind(way / 10)) throw new Code(3);
        T t = typeOf(r);
        if (t == null || t.kind == null || !all(t.kind).contains(kinds.get(way / 10))) throw new Code(3);
        M m = find(t.kind, kinds.get(way / 10), way % 10);
        if (m == null) throw new Code(4);
        return new Call(m, typeFor(t, m.kind));
    }

    void piece(Call c) {
        Object arg = c.t.arg;
        if (c.t.kind.par && !written && !value(c.t.arg)) arg = "reference";
        o.pieces.add(List.of(c.m.kind.no, c.m.name, c.m.body, arg));
    }

    F begin(Call c, V r, V arg, char role) {
        piece(c);
        F f = new F(); f.role = role; f.body = bodies.get(c.m.body); f.arg = c.t.arg;
        f.l[0] = r.k == 'b' ? r.in : r; f.l[1] = copy(arg);
        return f;
    }

    V call(V r, int way, V arg) {
        Call c = seek(r, way);
        if (stack.size() >= 12) throw new Code(6);
        o.calls++;
        return copy(enter(begin(c, r, arg, 'm')));
    }

    void ready(int t) {
        K k = types.get(t).kind;
        if (k == null) throw new Code(3);
        if (o.ready[t] == 'x') throw new Code(o.fault[t]);
        if (o.ready[t] == 'y' || k.ready < 0) return;
        if (stack.size() >= 12) throw new Code(6);
        o.ready[t] = 'y'; o.calls++;
        F f = new F(); f.role = 's'; f.body = bodies.get(k.ready); f.arg = types.get(t).arg;
        try {
            enter(f);
        } catch (Unwind u) {
            o.ready[t] = 'x'; o.fault[t] = u.n;
            throw new Code(u.n);
        }
    }

    F iterator(V v) {
        if (v == null) throw new Code(1);
        if (v.k != 'i') throw new Code(3);
        if (v.it.state == 'g') throw new Code(5);
        return v.it;
    }

    V goIterator(F it) {
        it.state = 'g';
        try {
            V v = enter(it);
            it.state = v == GAVE ? 's' : 'o';
            return v;
        } catch (Stale e) {
            it.state = 'o';
            throw new Code(e.n);
        } catch (Unwind e) {
            it.state = 'o';
            throw e;
        }
    }

    List<Target> row(V v) {
        if (v == null) return List.of();
        if (v.k != 'd') throw new Code(3);
        return v.row;
    }

    static V delegate(List<Target> row) {
        if (row.isEmpty()) return null;
        V v = new V(); v.k = 'd'; v.row = row;
        return v;
    }

    static final long[] tried = new long[128], done = new long[128];

    V[] step(F f, int[] s) {
        tried[s[0]]++;
        V[] r = step1(f, s);
        done[s[0]]++;
        return r;
    }

    V[] step1(F f, int[] s) {
        V[] l = f.l;
        int a = s[1], b = s[2], c = s[3], d = s[4];
        switch ((char) s[0]) {
            case '=' -> l[a] = num(b);
            case ':' -> l[a] = copy(l[b]);
            case '+' -> { int y = number(l[b]), z = number(l[c]); l[a] = num(y + z); }
            case '-' -> { int y = number(l[b]), z = number(l[c]); l[a] = num(y - z); }
            case '<' -> { int y = number(l[b]), z = number(l[c]); l[a] = num(y < z ? 1 : 0); }
            case '?' -> l[a] = num(same(l[b], l[c]) ? 1 : 0);
            case 'j' -> { return leave(f, 'j', b, null); }
            case 'z' -> { if (l[a] == null || l[a].k == 'n' && l[a].n == 0) return leave(f, 'j', b, null); }
            case 'N' -> {
                int t = typeIn(f, b);
                if (!value(t) && (t == 1 || types.get(t).kind.letter == 'i')) throw new Code(3);
                l[a] = value(t) ? first(t) : zeros('o', t);
            }
            case 'd' -> l[a] = first(typeIn(f, b));
            case '.', '!' -> {
                if (l[b] == null) throw new Code(1);
                if (l[b].k != 'o' && l[b].k != 's') throw new Code(3);
                if (s[0] == '.') l[a] = copy(l[b].f[c]); else l[b].f[c] = copy(l[a]);
            }
            case 'B' -> {
                if (l[b] != null && (l[b].k == 'n' || l[b].k == 's')) {
                    V v = new V(); v.k = 'b'; v.in = copy(l[b]); l[a] = v; o.boxes++;
                } else l[a] = l[b];
            }
            case 'U' -> {
                int t = typeIn(f, c);
                if (value(t)) {
                    if (l[b] == null) throw new Code(1);
                    if (l[b].k != 'b' || !typeOf(l[b]).equals(types.get(t))) throw new Code(2);
                    l[a] = copy(l[b].in);
                } else {
                    if (l[b] != null && !fits(l[b], t)) throw new Code(2);
                    l[a] = copy(l[b]);
                }
            }
            case 'T' -> { int t = typeIn(f, c); l[a] = num(fits(l[b], t) ? 1 : 0); }
            case 'C' -> l[a] = call(l[b], c, l[d]);
            case 'G' -> {
                V v = new V(); v.k = 'i';
                v.it = begin(seek(l[b], c), copy(l[b]), l[d], 'i');
                l[a] = v;
            }
            case 'E' -> {
                F it = iterator(l[b]);
                if (it.state == 'o') { l[a] = num(0); break; }
                if (stack.size() >= 12) throw new Code(6);
                if (it.state == 's') it.at++;
                if (goIterator(it) == GAVE) { V v = given; l[a] = num(1); l[c] = v; } else l[a] = num(0);
            }
            case 'Q' -> {
                F it = iterator(l[a]);
                if (it.state == 's' && watched(it, it.at)) {
                    if (stack.size() >= 12) throw new Code(6);
                    it.ending = true;
                    leaveFor(it, null);
                    goIterator(it);
                }
                it.state = 'o';
            }
            case 'S' -> { int t = typeIn(f, b); ready(t); l[a] = copy(o.st[t][c]); }
            case 's' -> { int t = typeIn(f, b); ready(t); o.st[t][c] = copy(l[a]); }
            case 'D' -> { Target t = new Target(); t.r = copy(l[b]); t.way = c; l[a] = delegate(List.of(t)); }
            case 'P' -> {
                List<Target> x = new ArrayList<>(row(l[b]));
                x.addAll(row(l[c]));
                if (x.size() > 4096) throw new TooBig();
                l[a] = delegate(x);
            }
            case 'M' -> {
                List<Target> x = row(l[b]), y = row(l[c]);
                int at = y.isEmpty() ? -1 : x.size() - y.size();
                while (at >= 0 && !like(x.subList(at, at + y.size()), y)) at--;
                if (at < 0) { l[a] = l[b]; break; }
                List<Target> z = new ArrayList<>(x.subList(0, at));
                z.addAll(x.subList(at + y.size(), x.size()));
                l[a] = delegate(z);
            }
            case 'I' -> {
                if (l[b] == null) throw new Code(1);
                if (l[b].k != 'd') throw new Code(3);
                V v = null;
                for (Target t : l[b].row) v = call(t.r, t.way, l[c]);
                l[a] = v;
            }
            case 'x' -> throw new Code(number(l[a]));
            case 'r' -> { return leaveFor(f, copy(l[a])); }
            case 'e' -> { if (!f.under.isEmpty()) return goOn(f); }
            case 'p' -> o.outs.add(number(l[a]));
            default -> throw new IllegalStateException();
        }
        f.at++;
        return null;
    }

    static boolean like(List<Target> x, List<Target> y) {
        for (int i = 0; i < y.size(); i++)
            if (x.get(i).way != y.get(i).way || !same(x.get(i).r, y.get(i).r)) return false;
        return true;
    }

    char returned() {
        if (last == null || last.end != 'r') throw new NoSuchElementException();
        return last.value == null ? '0' : last.value.k;
    }

    int number() { if (returned() != 'n') throw new NoSuchElementException(); return last.value.n; }
    int unhandled() { if (last == null || last.end != 'u') throw new NoSuchElementException(); return last.unhandled; }
    int outputs() { return last == null ? 0 : last.outs.size(); }
    int output(int i) { if (i < 0 || i >= outputs()) throw new IndexOutOfBoundsException(); return last.outs.get(i); }

    int staticOf(int t, int i) {
        if (noType(t)) throw new IndexOutOfBoundsException();
        if (i < 0 || i > 1) throw new IllegalArgumentException();
        if (last == null || t < 2 || last.st[t][i] == null || last.st[t][i].k != 'n') throw new NoSuchElementException();
        return last.st[t][i].n;
    }

    int steps() { return last == null ? 0 : last.steps; }
    int pieces() { return last == null ? 0 : last.pieces.size(); }
    int calls() { return last == null ? 0 : last.calls; }
    int boxes() { return last == null ? 0 : last.boxes; }
    int finals() { return last == null ? 0 : last.finals; }
    long allSteps() { return all; }
    float pieceShare() { if (calls() == 0) throw new ArithmeticException(); return (float) pieces() / calls(); }
    double meanSteps() { if (runs == 0) throw new ArithmeticException(); return (double) all / runs; }

    boolean isSame(int body, int arg) {
        if (noBody(body)) throw new IndexOutOfBoundsException();
        Res x = perform(body, arg, false), y = perform(body, arg, true);
        if (x.end != y.end || x.steps != y.steps || !x.outs.equals(y.outs) || x.unhandled != y.unhandled) return false;
        if (x.value == null || y.value == null) return x.value == y.value;
        return x.value.k == y.value.k && x.value.n == y.value.n;
    }
}
