/** The processor of the Model: each instruction makes its M-CYCLES itself, in the order of the document's words. */
final class ModelProcessor {
    ModelConsole console;
    int state;
    private int a;
    private int b;
    private int c;
    private int d;
    private int e;
    private int h;
    private int l;
    private int sp = 0xFFFE;
    private int pc = 0x100;
    private boolean z;
    private boolean n;
    private boolean hf;
    private boolean cf;
    private boolean ime;
    private boolean imeComes;
    private boolean pcStays;

    ModelProcessor(ModelConsole console) {
        this.console = console;
        a = console.colour ? 0x11 : 1;
        setF(0xB0);
        setPair(0, 0x13);
        setPair(1, 0xD8);
        setPair(2, 0x14D);
    }

    int about(int what) {
        int[] told = {a, f(), b, c, d, e, h, l, sp, pc, ime ? 1 : 0, state};
        return told[what];
    }

    private int f() {
        return (z ? 128 : 0) + (n ? 64 : 0) + (hf ? 32 : 0) + (cf ? 16 : 0);
    }

    private void setF(int v) {
        z = (v & 128) != 0;
        n = (v & 64) != 0;
        hf = (v & 32) != 0;
        cf = (v & 16) != 0;
    }

    private void flags(boolean zero, boolean less, boolean half, boolean carry) {
        z = zero;
        n = less;
        hf = half;
        cf = carry;
    }

    private boolean due() {
        return (console.ie & console.requested & 31) != 0;
    }

    void step() {
        if (state == 3 || state == 1 && !due() || state == 2 && console.keyBits() == 15) {
            console.idle();
            return;
        }
        state = 0;
        if (ime && due()) {
            interrupt();
            return;
        }
        boolean imeNow = imeComes;
        int first = console.read(pc);
        if (pcStays) {
            pcStays = false;
        } else {
            pc = (pc + 1) & 0xFFFF;
        }
        instruction(first);
        if (imeNow && imeComes) {
            ime = true;
            imeComes = false;
        }
    }

    private void interrupt() {
        ime = false;
        console.idle();
        console.idle();
        sp = (sp - 1) & 0xFFFF;
        console.write(sp, pc / 256);
        int k = 0;
        int waiting = console.ie & console.requested & 31;
        while (k < 5 && (waiting >> k & 1) == 0) {
            k++;
        }
        sp = (sp - 1) & 0xFFFF;
        console.write(sp, pc % 256);
        if (k < 5) {
            console.requested &= ~(1 << k);
            pc = 0x40 + 8 * k;
        } else {
            pc = 0;
        }
        console.idle();
    }

    private int next() {
        int v = console.read(pc);
        pc = (pc + 1) & 0xFFFF;
        return v;
    }

    private int nextWord() {
        int v = next();
        return v + 256 * next();
    }

    private int pair(int p) {
        return p == 0 ? 256 * b + c : p == 1 ? 256 * d + e : p == 2 ? 256 * h + l : sp;
    }

    private void setPair(int p, int v) {
        int word = v & 0xFFFF;
        switch (p) {
            case 0 -> {
                b = word / 256;
                c = word % 256;
            }
            case 1 -> {
                d = word / 256;
                e = word % 256;
            }
            case 2 -> {
                h = word / 256;
                l = word % 256;
            }
            default -> sp = word;
        }
    }

    private int r(int k) {
        switch (k) {
            case 0: return b;
            case 1: return c;
            case 2: return d;
            case 3: return e;
            case 4: return h;
            case 5: return l;
            case 6: return console.read(pair(2));
            default: return a;
        }
    }

    private void setR(int k, int v) {
        switch (k) {
            case 0 -> b = v;
            case 1 -> c = v;
            case 2 -> d = v;
            case 3 -> e = v;
            case 4 -> h = v;
            case 5 -> l = v;
            case 6 -> console.write(pair(2), v);
            default -> a = v;
        }
    }

    private boolean cc(int k) {
        return k == 0 ? !z : k == 1 ? z : k == 2 ? !cf : cf;
    }

    private void push(int word) {
        sp = (sp - 1) & 0xFFFF;
        console.write(sp, word / 256);
        sp = (sp - 1) & 0xFFFF;
        console.write(sp, word % 256);
    }

    private int pop() {
        int low = console.read(sp);
        sp = (sp + 1) & 0xFFFF;
        int high = console.read(sp);
        sp = (sp + 1) & 0xFFFF;
        return low + 256 * high;
    }

    private void call(int to) {
        console.idle();
        push(pc);
        pc = to;
    }

    private void giveBack() {
        int to = pop();
        console.idle();
        pc = to;
    }

    private void jumpBy(int v) {
        console.idle();
        pc = (pc + (byte) v) & 0xFFFF;
    }

    private void instruction(int code) {
        int x = code / 64;
        int y = code / 8 % 8;
        int zz = code % 8;
        if (x == 0) {
            firstQuarter(y, zz);
        } else if (code == 0x76) {
            if (!ime && due()) {
                pcStays = true;
            } else {
                state = 1;
            }
        } else if (x == 1) {
            setR(y, r(zz));
        } else if (x == 2) {
            alu(y, r(zz));
        } else {
            lastQuarter(y, zz);
        }
    }

    private void firstQuarter(int y, int zz) {
        int p = y / 2;
        boolean q = y % 2 == 1;
        switch (zz) {
            case 0 -> jumpsAndStop(y);
            case 1 -> {
                if (q) {
                    console.idle();
                    int v = pair(p);
                    int old = pair(2);
                    flags(z, false, (old & 0xFFF) + (v & 0xFFF) > 0xFFF, old + v > 0xFFFF);
                    setPair(2, old + v);
                } else {
                    setPair(p, nextWord());
                }
            }
            case 2 -> {
                int at = pair(Math.min(p, 2));
                if (q) {
                    a = console.read(at);
                } else {
                    console.write(at, a);
                }
                if (p >= 2) {
                    setPair(2, at + (p == 2 ? 1 : -1));
                }
            }
            case 3 -> {
                console.idle();
                setPair(p, pair(p) + (q ? -1 : 1));
            }
            case 4 -> {
                int v = (r(y) + 1) % 256;
                flags(v == 0, false, v % 16 == 0, cf);
                setR(y, v);
            }
            case 5 -> {
                int v = (r(y) + 255) % 256;
                flags(v == 0, true, v % 16 == 15, cf);
                setR(y, v);
            }
            case 6 -> setR(y, next());
            default -> ofA(y);
        }
    }

    private void jumpsAndStop(int y) {
        if (y == 1) {
            int to = nextWord();
            console.write(to, sp % 256);
            console.write((to + 1) & 0xFFFF, sp / 256);
        } else if (y == 2) {
            pc = (pc + 1) & 0xFFFF;
            console.stop();
        } else if (y == 3) {
            jumpBy(next());
        } else if (y >= 4) {
            int v = next();
            if (cc(y - 4)) {
                jumpBy(v);
            }
        }
    }

    private void ofA(int y) {
        switch (y) {
            case 4 -> decimal();
            case 5 -> {
                a = 255 - a;
                n = true;
                hf = true;
            }
            case 6 -> flags(z, false, false, true);
            case 7 -> flags(z, false, false, !cf);
            default -> {
                a = turned(y, a);
                z = false;
            }
        }
    }

    private void decimal() {
        int old = a;
        if (n) {
            a -= (cf ? 0x60 : 0) + (hf ? 6 : 0);
        } else {
            boolean more = cf || old > 0x99;
            a += (more ? 0x60 : 0) + (hf || old % 16 > 9 ? 6 : 0);
            cf = more;
        }
        a &= 255;
        z = a == 0;
        hf = false;
    }

    private int turned(int y, int v) {
        int in = cf ? 1 : 0;
        int out = y % 2 == 0 ? v / 128 : v % 2;
        int result;
        switch (y) {
            case 0: result = v * 2 + out; break;
            case 1: result = v / 2 + 128 * out; break;
            case 2: result = v * 2 + in; break;
            case 3: result = v / 2 + 128 * in; break;
            case 4: result = v * 2; break;
            case 5: result = v / 2 + (v & 128); break;
            case 6: result = v / 16 + v % 16 * 16; break;
            default: result = v / 2; break;
        }
        result %= 256;
        flags(result == 0, false, false, y != 6 && out == 1);
        return result;
    }

    private void alu(int y, int v) {
        int in = (y == 1 || y == 3) && cf ? 1 : 0;
        switch (y) {
            case 0, 1 -> {
                int sum = a + v + in;
                flags(sum % 256 == 0, false, a % 16 + v % 16 + in > 15, sum > 255);
                a = sum % 256;
            }
            case 2, 3, 7 -> {
                int rest = (a - v - in) & 255;
                flags(rest == 0, true, a % 16 < v % 16 + in, a < v + in);
                a = y == 7 ? a : rest;
            }
            case 4 -> {
                a &= v;
                flags(a == 0, false, true, false);
            }
            default -> {
                a = y == 5 ? a ^ v : a | v;
                flags(a == 0, false, false, false);
            }
        }
    }

    private void lastQuarter(int y, int zz) {
        int p = y / 2;
        boolean q = y % 2 == 1;
        switch (zz) {
            case 0 -> returnsAndSums(y);
            case 1 -> {
                if (!q) {
                    popTo(p);
                } else if (p == 0) {
                    giveBack();
                } else if (p == 1) {
                    giveBack();
                    ime = true;
                } else if (p == 2) {
                    pc = pair(2);
                } else {
                    console.idle();
                    sp = pair(2);
                }
            }
            case 2 -> jumpsAndLoads(y);
            case 3 -> {
                if (y == 0) {
                    int to = nextWord();
                    console.idle();
                    pc = to;
                } else if (y == 1) {
                    bits(next());
                } else if (y == 6) {
                    ime = false;
                    imeComes = false;
                } else if (y == 7) {
                    imeComes |= !ime;
                } else {
                    state = 3;
                }
            }
            case 4, 5 -> callsAndPushes(y, zz);
            case 6 -> alu(y, next());
            default -> call(8 * y);
        }
    }

    private void popTo(int p) {
        int v = pop();
        if (p == 3) {
            a = v / 256;
            setF(v);
        } else {
            setPair(p, v);
        }
    }

    private void returnsAndSums(int y) {
        if (y < 4) {
            console.idle();
            if (cc(y)) {
                giveBack();
            }
        } else if (y == 4) {
            console.write(0xFF00 + next(), a);
        } else if (y == 6) {
            a = console.read(0xFF00 + next());
        } else {
            int v = next();
            console.idle();
            int sum = sp + (byte) v;
            flags(false, false, sp % 16 + v % 16 > 15, sp % 256 + v > 255);
            if (y == 5) {
                console.idle();
                sp = sum & 0xFFFF;
            } else {
                setPair(2, sum);
            }
        }
    }

    private void jumpsAndLoads(int y) {
        if (y < 4) {
            int to = nextWord();
            if (cc(y)) {
                console.idle();
                pc = to;
            }
        } else if (y == 4) {
            console.write(0xFF00 + c, a);
        } else if (y == 6) {
            a = console.read(0xFF00 + c);
        } else if (y == 5) {
            console.write(nextWord(), a);
        } else {
            a = console.read(nextWord());
        }
    }

    private void callsAndPushes(int y, int zz) {
        if (zz == 5 && y % 2 == 0) {
            console.idle();
            push(y == 6 ? 256 * a + f() : pair(y / 2));
        } else if (zz == 4 && y < 4 || zz == 5 && y == 1) {
            int to = nextWord();
            if (zz == 5 || cc(y)) {
                call(to);
            }
        } else {
            state = 3;
        }
    }

    private void bits(int code) {
        int y = code / 8 % 8;
        int k = code % 8;
        int v = r(k);
        switch (code / 64) {
            case 0 -> setR(k, turned(y, v));
            case 1 -> flags((v >> y & 1) == 0, false, true, cf);
            case 2 -> setR(k, v & ~(1 << y));
            default -> setR(k, v | 1 << y);
        }
    }
}
