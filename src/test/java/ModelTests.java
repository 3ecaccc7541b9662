import java.math.BigInteger;
import java.util.ArrayList;
import java.util.List;
import java.util.NoSuchElementException;
import java.util.Random;
import java.util.TreeSet;

/** Random runs of calls, each answer held against a slow and plain model of the document. */
public final class ModelTests {
    private static int wrong = 0;
    private static int calls = 0;

    public static void main(String[] args) {
        int runs = args.length > 0 ? Integer.parseInt(args[0]) : 900;
        long first = args.length > 1 ? Long.parseLong(args[1]) : 1;
        for (long seed = first; seed < first + runs && wrong < 20; seed++) {
            new Run(seed).go();
        }
        System.out.println(calls + " calls, " + wrong + " answers differ from the model's");
        if (wrong != 0) {
            System.exit(1);
        }
    }

    interface Call {
        long on();
    }

    static String answer(Call call) {
        try {
            return Long.toString(call.on());
        } catch (RuntimeException e) {
            return e.getClass().getName();
        }
    }

    static final class Run {
        final long number;
        final Random random;
        final FrostMason real = new FrostMason();
        final Model model = new Model();

        Run(long number) {
            this.number = number;
            this.random = new Random(number);
        }

        /** No more than 512 calls in all, as what later ones answer is free. */
        void go() {
            int tells = 1 + random.nextInt(2);
            for (int i = 0; i < tells; i++) {
                tell();
                int many = 20 + random.nextInt(tells == 1 ? 180 : 90);
                for (int j = 0; j < many; j++) {
                    ask();
                }
            }
            look();
        }

        void same(String what, Call a, Call b) {
            calls++;
            String got = answer(a);
            String due = answer(b);
            if (!got.equals(due)) {
                wrong++;
                System.out.println("run " + number + ": " + what + " answered " + got + ", the model " + due);
            }
        }

        void tell() {
            String text = random.nextInt(4) == 0 ? spoilt(quarryText()) : quarryText();
            for (int i = 0; i < text.length(); i += 20) {
                int[] n = new int[5];
                for (int j = 0; j < 20; j++) {
                    int b = i + j < text.length() ? text.charAt(i + j) : random.nextInt(256);
                    n[j / 4] = n[j / 4] << 8 | b;
                }
                same("feed", () -> real.feed(n[0], n[1], n[2], n[3], n[4]), () -> model.feed(n));
            }
            same("quarry(" + text.length() + ") of '" + text + "'", () -> real.quarry(text.length()), () -> model.quarry(text.length()));
            same("fault() of '" + text + "'", () -> real.fault(), () -> model.fault);
        }

        String blanks() {
            return random.nextInt(12) == 0 ? "  " : "";
        }

        String spoilt(String text) {
            StringBuilder b = new StringBuilder(text);
            int changes = 1 + random.nextInt(2);
            for (int i = 0; i < changes && b.length() > 0; i++) {
                int at = random.nextInt(b.length());
                String signs = "0123456789 ;abdelorstw\u00ff~/:`{\u0000";
                char sign = signs.charAt(random.nextInt(signs.length()));
                switch (random.nextInt(4)) {
                    case 0: b.deleteCharAt(at); break;
                    case 1: b.setCharAt(at, sign); break;
                    case 2: if (b.length() < 600) { b.insert(at, sign); } break;
                    default: b.setLength(at); break;
                }
            }
            return b.toString();
        }

        String quarryText() {
            StringBuilder b = new StringBuilder();
            int blocks = 1 + random.nextInt(random.nextInt(10) == 0 ? 7 : 3);
            int[][] sizes = new int[blocks][];
            for (int i = 0; i < blocks; i++) {
                sizes[i] = new int[] {2 + random.nextInt(random.nextInt(6) == 0 ? 11 : 5), 2 + random.nextInt(random.nextInt(6) == 0 ? 11 : 5)};
                clause(b, "block", sizes[i][0], sizes[i][1], random.nextInt(2));
            }
            int slots = random.nextInt(random.nextInt(8) == 0 ? 14 : 7);
            for (int i = 0; i < slots; i++) {
                int block = random.nextInt(blocks);
                int a = random.nextInt(2);
                clause(b, "slot", block, a, 1 + random.nextInt(sizes[block][a] - 1), random.nextInt(sizes[block][1 - a]), 1 + random.nextInt(9));
            }
            int orders = random.nextInt(random.nextInt(8) == 0 ? 8 : 5);
            for (int i = 0; i < orders; i++) {
                int[] size = sizes[random.nextInt(blocks)];
                int w = random.nextBoolean() ? size[0] : 1 + random.nextInt(size[0]);
                int h = random.nextBoolean() ? size[1] : 1 + random.nextInt(size[1]);
                boolean turned = random.nextInt(3) == 0;
                clause(b, "order", turned ? h : w, turned ? w : h, 1 + random.nextInt(3), random.nextInt(4) == 0 ? random.nextInt(30) : random.nextInt(6), 1 + random.nextInt(20));
            }
            int[] left = new int[30];
            java.util.Arrays.fill(left, 8);
            int odds = random.nextInt(random.nextInt(8) == 0 ? 26 : 12);
            for (int i = 0; i < odds; i++) {
                int night = random.nextInt(4) == 0 ? random.nextInt(30) : random.nextInt(4);
                if (left[night] > 0 || random.nextInt(12) == 0) {
                    int p = Math.min(1 + random.nextInt(4), Math.max(1, left[night]));
                    left[night] -= p;
                    clause(b, "odds", night, 1 + random.nextInt(9), p);
                }
            }
            while (random.nextInt(3) == 0) {
                switch (random.nextInt(3)) {
                    case 0: clause(b, "water", random.nextInt(random.nextBoolean() ? 4 : 13)); break;
                    case 1: clause(b, "sledge", random.nextInt(random.nextBoolean() ? 3 : 10)); break;
                    default: clause(b, "thaw", random.nextInt(random.nextBoolean() ? 5 : 31)); break;
                }
            }
            while (random.nextInt(40) == 0 || b.length() > 400 && random.nextInt(3) == 0) {
                for (int i = 0; i < 12; i++) {
                    b.append("thaw9;");
                }
            }
            b.append(blanks());
            if (b.length() > 600) {
                b.setLength(600);
            }
            return b.toString();
        }

        void clause(StringBuilder b, String word, int... numbers) {
            b.append(blanks()).append(word);
            for (int i = 0; i < numbers.length; i++) {
                b.append(i == 0 && random.nextInt(12) == 0 ? "" : " ").append(blanks());
                b.append(random.nextInt(30) == 0 ? "00" : "").append(numbers[i]);
            }
            b.append(blanks()).append(';');
        }

        int near(int most) {
            return random.nextInt(most + 3) - 1;
        }

        int someFill() {
            int alive = model.undone();
            int fill = alive & random.nextInt(4096) & (random.nextBoolean() ? -1 : random.nextInt(4096));
            return random.nextInt(12) == 0 ? random.nextInt(4096) : random.nextInt(80) == 0 ? random.nextInt() : fill;
        }

        void ask() {
            int a = near(12);
            int b = near(7);
            int c = near(2);
            int seed = random.nextInt();
            boolean p = random.nextBoolean();
            boolean q = random.nextBoolean();
            int fill = someFill();
            switch (random.nextInt(34)) {
                case 0: same("told", () -> real.told(b), () -> model.told(b)); break;
                case 1: same("slot", () -> real.slot(a, b), () -> model.slot(a, b)); break;
                case 2: same("order", () -> real.order(b, c * 2 + 1), () -> model.order(b, c * 2 + 1)); break;
                case 3: same("piece", () -> real.piece(a, b), () -> model.piece(a, b)); break;
                case 4: same("odds", () -> real.odds(b, a), () -> model.odds(b, a)); break;
                case 5: same("seed", () -> real.seed(seed), () -> model.seed(seed)); break;
                case 6: case 7: case 8: case 9: case 10: {
                    int cold = random.nextInt(3) == 0 ? near(9) : -1;
                    same("night(" + fill + ", " + cold + ")", () -> real.night(fill, cold), () -> model.night(fill, cold));
                    break;
                }
                case 11: same("sums", () -> real.sums(b), () -> model.sums(b)); break;
                case 12: same("trace", () -> real.trace(b, c * 2), () -> model.trace(b, c * 2)); break;
                case 13: same("cold", () -> real.cold(a), () -> model.cold(a)); break;
                case 14: same("undone", () -> real.undone(), () -> model.undone()); break;
                case 15: same("left", () -> real.left(b, c, p ? 0 : 1), () -> model.left(b, c, p ? 0 : 1)); break;
                case 16: same("fits", () -> real.fits(b, c, p ? 0 : 1), () -> model.fits(b, c, p ? 0 : 1)); break;
                case 17: {
                    int planned = random.nextInt(20) == 0 ? random.nextInt() : random.nextInt(1 << Math.min(12, model.slots.size() + (random.nextInt(9) == 0 ? 1 : 0)));
                    same("plan", () -> real.plan(planned), () -> model.addPlan(planned));
                    break;
                }
                case 18: if (random.nextInt(4) == 0) { same("clear", () -> real.clear(), () -> model.clear()); } break;
                case 19: case 20: same("would", () -> real.would(seed, b), () -> model.would(seed, b)); break;
                case 21: {
                    int many = random.nextInt(5) == 0 ? near(99) : 1 + random.nextInt(9);
                    same("promise", () -> real.promise(b, seed, many), () -> model.promise(b, seed, many));
                    break;
                }
                case 22: if (random.nextInt(3) == 0) { same("tonight", () -> real.tonight(), () -> model.tonight()); } break;
                case 23: if (random.nextInt(3) == 0) { same("worth", () -> real.worth(c), () -> model.worth(c)); } break;
                case 24: same("now(" + fill + ")", () -> real.now(fill, c), () -> model.now(fill, c)); break;
                case 25: if (random.nextInt(6) == 0) { same("deeper", () -> real.deeper(), () -> model.deeper()); } break;
                case 26: same("thumb", () -> real.thumb(p, q), () -> model.thumb(p, q)); break;
                case 27: same("trust", () -> real.trust(p, c), () -> model.trust(p, c)); break;
                case 28: same("listening", () -> real.listening(), () -> model.listening()); break;
                case 29: same("tower", () -> real.tower(), () -> model.tower()); break;
                case 30: same("face", () -> real.face(b), () -> model.face(b)); break;
                case 31: same("image", () -> real.image(), () -> model.image()); break;
                case 32: same("restore", () -> real.restore(), () -> model.restore()); break;
                default: same("count", () -> real.count(c), () -> model.count(c)); break;
            }
        }

        void look() {
            for (int i = 0; i < 8; i++) {
                int w = i;
                same("told", () -> real.told(w), () -> model.told(w));
                same("sums", () -> real.sums(w), () -> model.sums(w));
                for (int j = 0; j < 13; j++) {
                    int s = j;
                    same("slot", () -> real.slot(s, w), () -> model.slot(s, w));
                    same("piece", () -> real.piece(s, w), () -> model.piece(s, w));
                }
            }
            same("seed", () -> real.seed(1), () -> model.seed(1));
        }
    }

    record Fraction(BigInteger above, BigInteger below) {
        static final Fraction ZERO = of(0, 1);

        static Fraction of(long a, long b) {
            return made(BigInteger.valueOf(a), BigInteger.valueOf(b));
        }

        static Fraction made(BigInteger a, BigInteger b) {
            BigInteger g = a.gcd(b);
            return new Fraction(a.divide(g), b.divide(g));
        }

        Fraction plus(Fraction o) {
            return made(above.multiply(o.below).add(o.above.multiply(below)), below.multiply(o.below));
        }

        Fraction times(Fraction o) {
            return made(above.multiply(o.above), below.multiply(o.below));
        }

        boolean more(Fraction o) {
            return above.multiply(o.below).compareTo(o.above.multiply(below)) > 0;
        }

        long part(int what) {
            return (what == 0 ? above : below).longValueExact();
        }
    }

    record Block(int w, int h, int grain) { }

    record Slot(int block, int a, int c, int e, int depth) { }

    record Order(int w, int h, int n, int t, int v) {
        boolean takes(int[] p) {
            int x = p[2] - p[1];
            int y = p[4] - p[3];
            return x == w && y == h || x == h && y == w;
        }
    }

    record Odd(int t, int k, int p) { }

    /** A source of draws below 4. */
    interface Source {
        int draw4();
    }

    static final class NeedMore extends RuntimeException {
    }

    static final class State {
        List<int[]> pieces = new ArrayList<>();
        List<Integer> depth = new ArrayList<>();
        TreeSet<Integer> split = new TreeSet<>();
        List<Integer> has = new ArrayList<>();
        List<Integer> colds = new ArrayList<>();
        List<int[]> trace = new ArrayList<>();
        List<Integer> plan = new ArrayList<>();
        List<boolean[]> records = new ArrayList<>();
        int seed;
        int paid;
        int bruises;

        State copy() {
            State s = new State();
            for (int[] p : pieces) {
                s.pieces.add(p.clone());
            }
            s.depth.addAll(depth);
            s.split.addAll(split);
            s.has.addAll(has);
            s.colds.addAll(colds);
            s.trace.addAll(trace);
            s.plan.addAll(plan);
            s.records.addAll(records);
            s.seed = seed;
            s.paid = paid;
            s.bruises = bruises;
            return s;
        }

        int night() {
            return colds.size();
        }
    }

    static final class Model {
        List<Integer> tape = new ArrayList<>();
        List<Block> blocks = new ArrayList<>();
        List<Slot> slots = new ArrayList<>();
        List<Order> orders = new ArrayList<>();
        List<Odd> odds = new ArrayList<>();
        int water = 12;
        int sledge = 9;
        int thaw = 30;
        int fault = -1;
        State now = new State();
        List<State> images = new ArrayList<>();

        static void need(boolean ok) {
            if (!ok) {
                throw new IllegalArgumentException();
            }
        }

        void needNight() {
            if (now.night() == 30) {
                throw new IllegalStateException();
            }
        }

        Slot slotOf(int i) {
            if (i < 0 || i >= slots.size()) {
                throw new NoSuchElementException();
            }
            return slots.get(i);
        }

        Order orderOf(int i) {
            if (i < 0 || i >= orders.size()) {
                throw new NoSuchElementException();
            }
            return orders.get(i);
        }

        int feed(int[] n) {
            if (tape.size() + 20 > 600) {
                return -1;
            }
            for (int x : n) {
                tape.add(x >>> 24);
                tape.add(x >>> 16 & 255);
                tape.add(x >>> 8 & 255);
                tape.add(x & 255);
            }
            return tape.size();
        }

        record Token(char kind, int at, String text) { }

        static List<Token> tokens(String s) {
            List<Token> list = new ArrayList<>();
            int i = 0;
            while (i < s.length()) {
                char c = s.charAt(i);
                int j = i + 1;
                char kind = '?';
                if (c == ' ') {
                    i++;
                    continue;
                }
                if (c == ';') {
                    kind = ';';
                } else if (c >= 'a' && c <= 'z') {
                    kind = 'w';
                    while (j < s.length() && s.charAt(j) >= 'a' && s.charAt(j) <= 'z') {
                        j++;
                    }
                } else if (c >= '0' && c <= '9') {
                    kind = 'n';
                    while (j < s.length() && s.charAt(j) >= '0' && s.charAt(j) <= '9') {
                        j++;
                    }
                }
                list.add(new Token(kind, i, s.substring(i, j)));
                i = j;
            }
            list.add(new Token('e', s.length(), ""));
            return list;
        }

        static final class Fault extends RuntimeException {
            final int kind;
            final int at;

            Fault(int kind, int at) {
                this.kind = kind;
                this.at = at;
            }
        }

        int quarry(int n) {
            need(n >= 0 && n <= tape.size());
            StringBuilder b = new StringBuilder();
            for (int i = 0; i < n; i++) {
                b.append((char) (int) tape.get(i));
            }
            tape.clear();
            Model m = new Model();
            try {
                m.parse(tokens(b.toString()));
            } catch (Fault f) {
                fault = f.at;
                return f.kind - 10;
            }
            fault = -1;
            blocks = m.blocks;
            slots = m.slots;
            orders = m.orders;
            odds = m.odds;
            water = m.water;
            sledge = m.sledge;
            thaw = m.thaw;
            images.clear();
            now = new State();
            for (int i = 0; i < blocks.size(); i++) {
                now.pieces.add(new int[] {i, 0, blocks.get(i).w, 0, blocks.get(i).h, 1});
            }
            for (Slot s : slots) {
                now.depth.add(s.depth);
            }
            for (int i = 0; i < orders.size(); i++) {
                now.has.add(0);
            }
            return blocks.size();
        }

        int number(Token t, int least, int most) {
            if (t.kind != 'n') {
                throw new Fault(1, t.at);
            }
            BigInteger v = new BigInteger(t.text);
            if (v.compareTo(BigInteger.valueOf(least)) < 0 || v.compareTo(BigInteger.valueOf(most)) > 0) {
                throw new Fault(2, t.at);
            }
            return v.intValue();
        }

        void parse(List<Token> list) {
            int i = 0;
            int clauses = 0;
            while (list.get(i).kind != 'e') {
                Token w = list.get(i);
                i++;
                List<String> words = List.of("block", "slot", "order", "odds", "water", "sledge", "thaw");
                if (w.kind != 'w' || !words.contains(w.text)) {
                    throw new Fault(1, w.at);
                }
                clauses++;
                boolean many = clauses > 60 || w.text.equals("block") && blocks.size() == 6 || w.text.equals("slot") && slots.size() == 12
                        || w.text.equals("order") && orders.size() == 6 || w.text.equals("odds") && odds.size() == 24;
                if (many) {
                    throw new Fault(3, w.at);
                }
                switch (w.text) {
                    case "block":
                        blocks.add(new Block(number(list.get(i++), 2, 12), number(list.get(i++), 2, 12), number(list.get(i++), 0, 1)));
                        break;
                    case "slot": {
                        int block = number(list.get(i++), 0, blocks.size() - 1);
                        int a = number(list.get(i++), 0, 1);
                        int[] size = {blocks.get(block).w, blocks.get(block).h};
                        slots.add(new Slot(block, a, number(list.get(i++), 1, size[a] - 1), number(list.get(i++), 0, size[1 - a] - 1), number(list.get(i++), 1, 9)));
                        break;
                    }
                    case "order":
                        orders.add(new Order(number(list.get(i++), 1, 12), number(list.get(i++), 1, 12), number(list.get(i++), 1, 9), number(list.get(i++), 0, 29), number(list.get(i++), 1, 99)));
                        break;
                    case "odds": {
                        int t = number(list.get(i++), 0, 29);
                        int k = number(list.get(i++), 1, 9);
                        int sum = odds.stream().filter(o -> o.t == t).mapToInt(o -> o.p).sum();
                        odds.add(new Odd(t, k, number(list.get(i++), 1, 8 - sum)));
                        break;
                    }
                    case "water": water = number(list.get(i++), 0, 12); break;
                    case "sledge": sledge = number(list.get(i++), 0, 9); break;
                    default: thaw = number(list.get(i++), 0, 30); break;
                }
                if (list.get(i).kind != ';') {
                    throw new Fault(1, list.get(i).at);
                }
                i++;
            }
        }

        int told(int what) {
            need(what >= 0 && what < 8);
            return new int[] {blocks.size(), slots.size(), orders.size(), water, sledge, thaw, now.night(), now.pieces.size()}[what];
        }

        int pieceOf(State s, int slot) {
            Slot t = slots.get(slot);
            int x = t.a == 0 ? t.c : t.e;
            int y = t.a == 0 ? t.e : t.c;
            for (int i = 0; i < s.pieces.size(); i++) {
                int[] p = s.pieces.get(i);
                if (p[0] == t.block && p[1] <= x && x < p[2] && p[3] <= y && y < p[4]) {
                    return p[5] == 1 ? i : -1;
                }
            }
            throw new AssertionError("a point in no piece");
        }

        boolean inside(State s, int slot, int line) {
            int i = pieceOf(s, slot);
            if (i < 0) {
                return false;
            }
            int[] p = s.pieces.get(i);
            return slots.get(slot).a == 0 ? p[1] < line && line < p[2] : p[3] < line && line < p[4];
        }

        boolean alive(State s, int slot) {
            return !s.split.contains(slot) && inside(s, slot, slots.get(slot).c);
        }

        List<Integer> alive(State s) {
            List<Integer> list = new ArrayList<>();
            for (int i = 0; i < slots.size(); i++) {
                if (alive(s, i)) {
                    list.add(i);
                }
            }
            return list;
        }

        boolean across(int slot) {
            return slots.get(slot).a != blocks.get(slots.get(slot).block).grain;
        }

        int needs(State s, int slot) {
            return 4 + (across(slot) ? 2 : 0) - s.depth.get(slot) / 3;
        }

        int slot(int slot, int what) {
            Slot t = slotOf(slot);
            need(what >= 0 && what < 8);
            return new int[] {t.block, t.a, t.c, t.e, now.depth.get(slot), needs(now, slot), alive(now, slot) ? 1 : 0, pieceOf(now, slot)}[what];
        }

        int order(int order, int what) {
            Order o = orderOf(order);
            need(what >= 0 && what < 6);
            return new int[] {o.w, o.h, o.n, o.t, o.v, now.has.get(order)}[what];
        }

        int piece(int piece, int what) {
            if (piece < 0 || piece >= now.pieces.size()) {
                throw new IndexOutOfBoundsException();
            }
            need(what >= 0 && what < 6);
            return now.pieces.get(piece)[what];
        }

        int odds(int night, int k) {
            need(night >= 0 && night < 30 && k > 0 && k < 10);
            return odds.stream().filter(o -> o.t == night && o.k >= k).mapToInt(o -> o.p).sum();
        }

        int seed(int seed) {
            int was = now.seed;
            now.seed = seed;
            return was;
        }

        static int draw(State s, int below) {
            s.seed = (int) (s.seed * 1103515245L + 12345);
            return (int) ((s.seed & 0xffffffffL) / 65536 % below);
        }

        int drawCold(State s) {
            int night = s.night();
            if (odds.stream().noneMatch(o -> o.t == night)) {
                return 0;
            }
            List<Integer> fall = new ArrayList<>();
            for (Odd o : odds) {
                for (int i = 0; o.t == night && i < o.p; i++) {
                    fall.add(o.k);
                }
            }
            while (fall.size() < 8) {
                fall.add(0);
            }
            return fall.get(draw(s, 8));
        }

        void pass(State s, List<Integer> fill, int cold, Source source) {
            int night = s.night();
            for (int slot : fill) {
                if (!alive(s, slot)) {
                    continue;
                }
                if (cold < needs(s, slot)) {
                    if (cold > 0) {
                        s.bruises++;
                        s.depth.set(slot, s.depth.get(slot) == 1 ? 1 : s.depth.get(slot) - 1);
                    }
                    continue;
                }
                int c = slots.get(slot).c;
                int line = c;
                if (across(slot) && cold < needs(s, slot) + 2) {
                    int d = source.draw4();
                    int wish = d == 0 ? c - 1 : d == 1 ? c + 1 : c;
                    line = inside(s, slot, wish) ? wish : c;
                }
                int[] p = s.pieces.get(pieceOf(s, slot));
                int[] up = p.clone();
                int a = slots.get(slot).a;
                p[a == 0 ? 2 : 4] = line;
                up[a == 0 ? 1 : 3] = line;
                s.pieces.add(up);
                s.split.add(slot);
                s.trace.add(new int[] {slot, night, cold, line - c});
            }
            int sledges = night < thaw ? sledge : 0;
            for (int i = 0; i < orders.size(); i++) {
                Order o = orders.get(i);
                for (int[] p : s.pieces) {
                    if (sledges > 0 && night <= o.t && s.has.get(i) < o.n && p[5] == 1 && o.takes(p)) {
                        p[5] = 0;
                        s.has.set(i, s.has.get(i) + 1);
                        s.paid += o.v;
                        sledges--;
                    }
                }
            }
            s.colds.add(cold);
        }

        List<Integer> listOf(int bits) {
            List<Integer> list = new ArrayList<>();
            for (int i = 0; i < 32; i++) {
                if ((bits >>> i & 1) == 1) {
                    list.add(i);
                }
            }
            return list;
        }

        void needFill(int fill) {
            need(alive(now).containsAll(listOf(fill)) && listOf(fill).size() <= water);
        }

        int night(int fill, int cold) {
            needFill(fill);
            need(cold >= -1 && cold < 10);
            needNight();
            int before = now.trace.size();
            State s = now;
            pass(s, listOf(fill), cold < 0 ? drawCold(s) : cold, () -> draw(s, 4));
            return now.trace.size() - before;
        }

        static int area(int[] p) {
            return (p[2] - p[1]) * (p[4] - p[3]);
        }

        static int astray(State s) {
            return (int) s.trace.stream().filter(t -> t[3] != 0).count();
        }

        int sums(int what) {
            need(what >= 0 && what < 8);
            int all = blocks.stream().mapToInt(b -> b.w * b.h).sum();
            int lying = now.pieces.stream().filter(p -> p[5] == 1).mapToInt(p -> area(p)).sum();
            int no = (int) now.pieces.stream().filter(p -> p[5] == 1 && orders.stream().noneMatch(o -> o.takes(p))).count();
            return new int[] {all, lying, all - lying, now.paid, now.trace.size(), astray(now), now.bruises, no}[what];
        }

        int trace(int i, int what) {
            need(what >= 0 && what < 4);
            return i < 0 || i >= now.trace.size() ? -2 : now.trace.get(i)[what];
        }

        int cold(int night) {
            return night < 0 || night >= now.night() ? -1 : now.colds.get(night);
        }

        int undone() {
            return alive(now).stream().mapToInt(i -> 1 << i).sum();
        }

        int[] partOf(int slot, int way, int part) {
            Slot t = slotOf(slot);
            need(way >= 0 && way < 3 && part >= 0 && part < 2);
            int line = t.c + way - 1;
            if (!alive(now, slot) || !inside(now, slot, line)) {
                return null;
            }
            int[] p = now.pieces.get(pieceOf(now, slot)).clone();
            p[(t.a == 0 ? 1 : 3) + 1 - part] = line;
            return p;
        }

        int left(int slot, int way, int what) {
            int[] p = partOf(slot, way, what);
            return p == null ? -1 : area(p);
        }

        int fits(int slot, int way, int part) {
            int[] p = partOf(slot, way, part);
            for (int i = 0; p != null && i < orders.size(); i++) {
                if (orders.get(i).takes(p)) {
                    return i;
                }
            }
            return -1;
        }

        int addPlan(int fill) {
            need(listOf(fill).stream().allMatch(i -> i < slots.size()));
            if (now.plan.size() == 30) {
                return -1;
            }
            now.plan.add(fill);
            return now.plan.size();
        }

        int clear() {
            int n = now.plan.size();
            now.plan.clear();
            return n;
        }

        int idle;

        State behindPlan(int seed) {
            State s = now.copy();
            s.seed = seed;
            idle = 0;
            for (int planned : now.plan) {
                if (s.night() == 30) {
                    break;
                }
                List<Integer> fill = listOf(planned);
                fill.retainAll(alive(s));
                while (fill.size() > water) {
                    fill.remove(fill.size() - 1);
                }
                idle += fill.isEmpty() ? 1 : 0;
                pass(s, fill, drawCold(s), () -> draw(s, 4));
            }
            return s;
        }

        int would(int seed, int what) {
            need(what >= 0 && what < 6);
            State s = behindPlan(seed);
            int done = 0;
            for (int i = 0; i < orders.size(); i++) {
                done += s.has.get(i) == orders.get(i).n ? 1 : 0;
            }
            return new int[] {s.paid - now.paid, s.trace.size() - now.trace.size(), astray(s) - astray(now), idle, done, s.bruises - now.bruises}[what];
        }

        int promise(int order, int seed, int many) {
            Order o = orderOf(order);
            need(many > 0 && many < 100);
            int kept = 0;
            for (int i = 0; i < many; i++) {
                kept += behindPlan(seed + i).has.get(order) == o.n ? 1 : 0;
            }
            return kept;
        }

        /** Mean of what is paid with this fill, and in so many nights more. */
        Fraction mean(State s, List<Integer> fill, int nightsMore) {
            int night = s.night();
            int told = odds.stream().filter(o -> o.t == night).mapToInt(o -> o.p).sum();
            Fraction sum = meanAt(s, fill, 0, nightsMore, List.of()).times(Fraction.of(8 - told, 8));
            for (Odd o : odds) {
                if (o.t == night) {
                    sum = sum.plus(meanAt(s, fill, o.k, nightsMore, List.of()).times(Fraction.of(o.p, 8)));
                }
            }
            return sum;
        }

        Fraction meanAt(State s, List<Integer> fill, int cold, int nightsMore, List<Integer> draws) {
            State after = s.copy();
            int[] used = {0};
            try {
                pass(after, fill, cold, () -> {
                    if (used[0] == draws.size()) {
                        throw new NeedMore();
                    }
                    return draws.get(used[0]++);
                });
            } catch (NeedMore e) {
                Fraction sum = Fraction.ZERO;
                for (int d = 0; d < 4; d++) {
                    List<Integer> longer = new ArrayList<>(draws);
                    longer.add(d);
                    sum = sum.plus(meanAt(s, fill, cold, nightsMore, longer));
                }
                return sum.times(Fraction.of(1, 4));
            }
            Fraction paid = Fraction.of(after.paid - s.paid, 1);
            if (nightsMore > 0 && after.night() < 30) {
                paid = paid.plus(best(after, nightsMore - 1));
            }
            return paid;
        }

        int bestSet;

        Fraction best(State s, int nightsMore) {
            List<Integer> three = alive(s);
            while (three.size() > 3) {
                three.remove(three.size() - 1);
            }
            Fraction most = Fraction.of(-1, 1);
            int set = -1;
            for (int bits = 0; bits < 4096; bits++) {
                List<Integer> fill = listOf(bits);
                if (three.containsAll(fill) && fill.size() <= water) {
                    Fraction f = mean(s, fill, nightsMore);
                    if (f.more(most)) {
                        most = f;
                        set = bits;
                    }
                }
            }
            bestSet = set;
            return most;
        }

        int tonight() {
            needNight();
            best(now, 1);
            return bestSet;
        }

        long worth(int what) {
            need(what == 0 || what == 1);
            needNight();
            return best(now, 1).part(what);
        }

        long now(int fill, int what) {
            needFill(fill);
            need(what == 0 || what == 1);
            need(listOf(fill).size() <= 6);
            needNight();
            return mean(now, listOf(fill), 0).part(what);
        }

        int deeper() {
            needNight();
            int best = -1;
            Fraction most = Fraction.of(-1, 1);
            for (int slot : alive(now)) {
                State s = now.copy();
                s.depth.set(slot, Math.min(9, s.depth.get(slot) + 1));
                Fraction f = best(s, 1);
                if (f.more(most)) {
                    most = f;
                    best = slot;
                }
            }
            return best;
        }

        int thumb(boolean said, boolean came) {
            if (now.records.size() == 60) {
                return -1;
            }
            now.records.add(new boolean[] {said, came});
            return now.records.size();
        }

        int trust(boolean said, int what) {
            need(what == 0 || what == 1);
            long all = now.records.stream().filter(r -> r[0] == said).count();
            long came = now.records.stream().filter(r -> r[0] == said && r[1]).count();
            return all == 0 ? what : (int) Fraction.of(came, all).part(what);
        }

        int listening() {
            int right = 0;
            int frost = 0;
            for (boolean[] r : now.records) {
                right += r[0] == r[1] ? 1 : 0;
                frost += r[1] ? 1 : 0;
            }
            boolean sayFrost = frost * 2 >= now.records.size();
            return right - (sayFrost ? frost : now.records.size() - frost);
        }

        int tower() {
            List<int[]> sides = new ArrayList<>();
            for (int[] p : now.pieces) {
                if (p[5] == 1) {
                    sides.add(new int[] {p[2] - p[1], p[4] - p[3]});
                }
            }
            int best = 0;
            // By area: what is no wider and no higher has no more of it, so one pass from the least finds every chain.
            sides.sort((p, q) -> p[0] * p[1] - q[0] * q[1]);
            int[][] high = new int[sides.size()][2];
            for (int i = 0; i < sides.size(); i++) {
                for (int turn = 0; turn < 2; turn++) {
                    high[i][turn] = 1;
                    for (int j = 0; j < i; j++) {
                        for (int t = 0; t < 2; t++) {
                            if (sides.get(j)[t] <= sides.get(i)[turn] && sides.get(j)[1 - t] <= sides.get(i)[1 - turn]) {
                                high[i][turn] = Math.max(high[i][turn], 1 + high[j][t]);
                            }
                        }
                    }
                    best = Math.max(best, high[i][turn]);
                }
            }
            return best;
        }

        int face(int slot) {
            slotOf(slot);
            int bits = 0;
            for (int i = 0; i < now.night(); i++) {
                bits += now.colds.get(i) >= needs(now, slot) ? 1 << i : 0;
            }
            return bits;
        }

        int image() {
            if (images.size() == 3) {
                return -1;
            }
            images.add(now.copy());
            return images.size();
        }

        int restore() {
            if (images.isEmpty()) {
                return -1;
            }
            now = images.remove(images.size() - 1);
            return images.size();
        }

        int count(int what) {
            return what < 0 || what > 3 ? -1 : new int[] {now.plan.size(), now.records.size(), images.size(), tape.size()}[what];
        }
    }
}
