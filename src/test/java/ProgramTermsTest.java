/** A test for each sentence of "PROGRAMS" (Terms) that names an edge; each begins with the sentence. */
final class ProgramTermsTest {
    private static final int E = NestedPager.EXIT;
    private static final int ALL = Rig.P | Rig.W | Rig.U;
    private static final int DATA = 5 * 16;

    private ProgramTermsTest() {
    }

    public static void main(String[] args) {
        wordHasCodeAndT();
        sumsModulo();
        jumpsByA();
        constantsAreSigned();
        indexModulo();
        trapTellsT();
        flushesOfPrograms();
        flushForA();
        rootWithAndWithoutFlush();
        registersModulo();
        registersRead();
        unknownInstructions();
        userModeRefuses();
        userModeLets();
        pcModulo();
        goingBack();
        halting();
        nothingOfStepIsDone();
        whatWalksDidStays();
        handlerGetsFault();
        faultWithoutHandler();
        faultWhileHandling();
        exitStops();
        givingEdges();
        givingFreesFrameOrSlot();
        givingWithoutRoom();
        givingOwnPage();
        freshAgain();
        freshAgainRefused();
        deniedStaysWithBoth();
        targetOfGuest();
        flushForAllVcpus();
        eventForVcpu();
        eventsTaken();
        otherCalls();
        Check.end();
    }

    /** A program at 0, with A and X; memory is 16 pages. */
    private static Rig program(int a, int x, int... words) {
        Rig rig = new Rig(16);
        rig.write(0, words);
        rig.set(Rig.A, a);
        rig.set(Rig.X, x);
        return rig;
    }

    private static void wordHasCodeAndT() {
        Check.sentence("A STEP: a TICK; a FETCH at PC; the word's highest four bits say what it is, t is the other "
            + "twelve: 1 A is the word at t (READ). 2 A is WRITTEN at t.");
        Rig rig = program(7, 0, Rig.load(255), Rig.store(254), Rig.load(4095), 0);
        rig.write(252, 0, 0, 0, 65535);
        rig.dueRun("1", 1, 1);
        rig.dueReg("1", Rig.A, 65535);
        rig.dueRun("2", 1, 1);
        Check.due("2", rig.host.peek(0, 254), 65535);
        rig.dueRun("1 with the greatest t", 1, 0);
        rig.dueExit("1 with the greatest t", Rig.NOTHING, 4095, 4095, 0, 0);
        rig.set(Rig.PC, 256);
        rig.dueRun("a FETCH behind RAM", 1, 0);
        rig.dueExit("a FETCH behind RAM", Rig.NOTHING, 256, 256, 2, 0);
        rig.host.deny(0, 0, 4);
        rig.set(Rig.PC, 0);
        rig.dueRun("a FETCH is for EXECUTE", 1, 0);
        rig.dueExit("a FETCH is for EXECUTE", Rig.DENIED, 0, 0, 2, 0);
        rig.host.deny(0, 0, 1 + 2);
        rig.dueRun("not for READ", 1, 1);
    }

    private static void sumsModulo() {
        Check.sentence("3, 4, 5: A and the word at t added, it taken from A, and: bit by bit (modulo 65536).");
        int[] code = {3, 3, 3, 4, 4, 4, 5, 5};
        int[] a = {65535, 65535, 0, 0, 0, 65535, 65535, 0x0F0F};
        int[] word = {1, 65535, 0, 1, 65535, 65535, 65535, 0x00FF};
        int[] want = {0, 65534, 0, 65535, 1, 0, 65535, 0x000F};
        for (int i = 0; i < code.length; i++) {
            Rig rig = program(a[i], 9, Rig.op(code[i], DATA));
            rig.write(DATA, word[i]);
            rig.dueRun("case " + i, 1, 1);
            rig.dueReg("case " + i, Rig.A, want[i]);
            rig.dueReg("X stays", Rig.X, 9);
        }
    }

    private static void jumpsByA() {
        Check.sentence("6: PC is t. 7: if A is 0; 8: if it is not.");
        int[] a = {0, 1, 65535};
        for (int i = 0; i < 3; i++) {
            for (int code = 6; code < 9; code++) {
                for (int t : new int[] {0, 4095}) {
                    Rig rig = program(0, 0, Rig.set(0), Rig.op(code, t));
                    rig.set(Rig.PC, 1);
                    rig.set(Rig.A, a[i]);
                    boolean jumps = code == 6 || (code == 7) == (a[i] == 0);
                    rig.dueRun("a step, wherever it goes", 1, 1);
                    rig.dueReg(code + " with A = " + a[i], Rig.PC, jumps ? t : 2);
                }
            }
        }
    }

    private static void constantsAreSigned() {
        Check.sentence("9: A is t (as a signed number of twelve bits, modulo 65536).");
        int[] t = {0, 2047, 2048, 2049, 4095};
        int[] want = {0, 2047, 63488, 63489, 65535};
        for (int i = 0; i < t.length; i++) {
            Rig rig = program(5, 0, Rig.op(9, t[i]));
            rig.dueRun("t " + t[i], 1, 1);
            rig.dueReg("t " + t[i], Rig.A, want[i]);
        }
    }

    private static void indexModulo() {
        Check.sentence("10: X is the word at t. 11: A is the word at t + X; 12: A is WRITTEN there (both modulo 4096).");
        int[] t = {DATA, 4095, 4095, 0, 1, DATA, 0, 4095};
        int[] x = {0, DATA + 1, 61440 + DATA + 1, 4096 + DATA, 61440 + DATA - 1, 61440, 65535, 65535};
        int[] where = {DATA, DATA, DATA, DATA, DATA, DATA, 4095, 4094};
        for (int i = 0; i < t.length; i++) {
            int at = where[i];
            Rig rig = program(321, x[i], Rig.op(12, t[i]), Rig.set(0), Rig.op(11, t[i]));
            if (at < 256) {
                rig.dueRun("case " + i, 3, 3);
                rig.dueReg("case " + i, Rig.A, 321);
                Check.due("case " + i, rig.host.peek(0, at), 321);
            } else {
                rig.dueRun("case " + i, 3, 0);
                rig.dueExit("case " + i, Rig.NOTHING, at, at, 1, 0);
                rig.set(Rig.PC, 2);
                rig.dueRun("case " + i, 3, 0);
                rig.dueExit("case " + i, Rig.NOTHING, at, at, 0, 0);
            }
            rig.dueReg("X stays", Rig.X, x[i]);
        }
        Rig rig = program(0, 3, Rig.op(10, DATA));
        rig.write(DATA, 65535, 1, 2, 3);
        rig.dueRun("10, at t alone", 1, 1);
        rig.dueReg("X", Rig.X, 65535);
        rig.dueReg("A stays", Rig.A, 0);
        // At 4096 t + X begins again; X itself is not cut.
        rig = program(11, 1, Rig.op(12, 4095));
        rig.dueRun("4095 + 1 is 0", 1, 1);
        Check.due("address 0", rig.host.peek(0, 0), 11);
    }

    private static void trapTellsT() {
        Check.sentence("13: a FAULT with CODE 64, t being its address.");
        for (int t : new int[] {0, 4095}) {
            Rig rig = program(3, 4, Rig.trap(t));
            rig.dueRun("13", 5, 0);
            rig.dueFault("13", 64, t);
            rig.dueExit("13", Rig.FAULTED, 0, t, 0, 0);
        }
    }

    /** Pages 0 .. 3 of the addresses are pages 0, 8, 9, 10; page 2's is GLOBAL. PAGING and WP are on. */
    private static Rig paged(int... words) {
        Rig rig = new Rig(16);
        rig.write(0, words);
        rig.write(16, Rig.to(2, ALL));
        rig.write(32, Rig.to(0, ALL), Rig.to(8, ALL), Rig.to(9, ALL | Rig.GLOBAL), Rig.to(10, ALL));
        rig.set(Rig.ROOT, 1);
        rig.set(Rig.BITS, 3);
        return rig;
    }

    /** Places 0 and 1 for page 1 of ASIDS 0 and 1, 2 and 3 for pages 2 (GLOBAL) and 3 of ASID 1; it has ASID 1. */
    private static Rig placed(int... words) {
        Rig rig = paged(words);
        rig.dueAccess("place 0", Rig.READ, 16, 0, 0);
        rig.set(Rig.ASID, 1);
        rig.dueAccess("place 1", Rig.READ, 16, 0, 0);
        rig.dueAccess("place 2", Rig.READ, 32, 0, 0);
        rig.dueAccess("place 3", Rig.READ, 48, 0, 0);
        return rig;
    }

    private static void dueFull(String when, Rig rig, boolean... full) {
        for (int i = 0; i < full.length; i++) {
            Check.holds(when + ": place " + i + (full[i] ? " stays" : " is empty"),
                (rig.host.aside(0, i, 0) != -1) == full[i]);
        }
    }

    private static void flushesOfPrograms() {
        Check.sentence("FLUSHES: 2 0; 3 1; 4 2 for A;");
        Rig rig = placed(2);
        rig.dueRun("FLUSH 0", 1, 1);
        dueFull("FLUSH 0", rig, false, false, false, false, false);
        rig = placed(3);
        rig.dueRun("FLUSH 1", 1, 1);
        dueFull("FLUSH 1, with the place of the FETCH", rig, true, false, true, false, false);
        rig = placed(4);
        rig.set(Rig.A, 16 + 15);
        rig.dueRun("FLUSH 2", 1, 1);
        dueFull("FLUSH 2", rig, true, false, true, true, true);
        rig.dueReg("A stays", Rig.A, 31);
        rig = placed(4);
        rig.set(Rig.A, 32);
        rig.dueRun("FLUSH 2", 1, 1);
        dueFull("FLUSH 2 of a GLOBAL one", rig, true, true, false, true, true);
    }

    private static void flushForA() {
        Check.sentence("4 2 for A;");
        for (int a : new int[] {64, 4095, 4096 + 16, 65535}) {
            Rig rig = placed(4);
            rig.set(Rig.A, a);
            rig.dueRun("FLUSH 2 for " + a, 1, 1);
            dueFull("nothing fits " + a, rig, true, true, true, true, true);
        }
    }

    private static void rootWithAndWithoutFlush() {
        Check.sentence("5 ROOT is A modulo 256, and FLUSH 1; 6 it is, without;");
        for (int a : new int[] {255, 256, 65535, 0}) {
            Rig rig = placed(5);
            rig.set(Rig.A, a);
            rig.dueRun("5", 1, 1);
            rig.dueReg("5", Rig.ROOT, a % 256);
            dueFull("5", rig, true, false, true, false, false);
            rig.dueReg("PC", Rig.PC, 1);
            rig = placed(6);
            rig.set(Rig.A, a);
            rig.dueRun("6", 1, 1);
            rig.dueReg("6", Rig.ROOT, a % 256);
            dueFull("6", rig, true, true, true, true, true);
        }
    }

    private static void registersModulo() {
        Check.sentence("7 ASID is A modulo 4; 8 BITS are A modulo 4; 9 HANDLER, 10 EPC are A modulo 4096;");
        int[] t = {7, 8, 9, 10, 16};
        int[] register = {Rig.ASID, Rig.BITS, Rig.HANDLER, Rig.EPC, Rig.EMODE};
        int[] modulo = {4, 4, 4096, 4096, 2};
        for (int i = 0; i < t.length; i++) {
            for (int a : new int[] {0, modulo[i] - 1, modulo[i], modulo[i] + 1, 65535}) {
                Rig rig = program(a, 0, t[i]);
                rig.dueRun("0 " + t[i], 1, 1);
                rig.dueReg("0 " + t[i] + " with A = " + a, register[i], a % modulo[i]);
                rig.dueReg("A stays", Rig.A, a);
                rig.dueReg("PC", Rig.PC, 1);
            }
        }
    }

    private static void registersRead() {
        Check.sentence("11 A is EPC; 12 ECODE; 13 EVA; 14 X is A; 15 A is X; 16 EMODE is A modulo 2.");
        Rig rig = program(9, 8, Rig.trap(4095), 0, 0, 0, 11, 12, 13, 15, 14, 0);
        rig.set(Rig.HANDLER, 4);
        int[] want = {1, 64, 4095, 8};
        rig.dueRun("13", 1, 1);
        for (int i = 0; i < 4; i++) {
            rig.dueRun("11, 12, 13, 15", 1, 1);
            rig.dueReg("A", Rig.A, want[i]);
        }
        rig.set(Rig.A, 65535);
        rig.dueRun("14", 1, 1);
        rig.dueReg("X", Rig.X, 65535);
        rig = program(9, 8, 11, 12, 13, 0);
        for (int i = 0; i < 3; i++) {
            rig.set(Rig.A, 9);
            rig.dueRun("without a FAULT", 1, 1);
            rig.dueReg("0", Rig.A, 0);
        }
    }

    private static void unknownInstructions() {
        Check.sentence("Otherwise, and with 15, a FAULT with CODE 32 (and PC its address):");
        for (int word : new int[] {17, 18, 255, 4095, Rig.op(15, 0), Rig.op(15, 16), 65535}) {
            for (int mode = 0; mode < 2; mode++) {
                Rig rig = new Rig(16);
                rig.write(252, 0, 0, 0, word);
                rig.set(Rig.PC, 255);
                rig.set(Rig.MODE, mode);
                rig.dueRun("word " + word, 1, 0);
                rig.dueFault("word " + word, 32, 255);
                rig.dueExit("word " + word, Rig.FAULTED, 0, 255, 0, 0);
            }
        }
        Rig rig = program(1, 0, 16);
        rig.dueRun("16 is the last that is known", 1, 1);
        rig.dueFault("no FAULT", 0, 0);
    }

    private static void userModeRefuses() {
        Check.sentence("so are 14 and of 0 all but 14, 15 in user MODE.");
        for (int t = 0; t < 24; t++) {
            boolean free = t == 14 || t == 15;
            Rig rig = program(4, 5, Rig.set(4), t);
            rig.set(Rig.MODE, 1);
            rig.dueRun("0 " + t, 2, free ? 2 : 1);
            rig.dueFault("0 " + t, free ? 0 : 32, free ? 0 : 1);
            rig.dueReg("0 " + t, Rig.STATE, free ? Rig.RUNS : Rig.STOPPED);
            for (int what : new int[] {Rig.BITS, Rig.ROOT, Rig.ASID, Rig.EPC, Rig.EMODE, Rig.ECODE, Rig.EVA}) {
                rig.dueReg("0 " + t + " changes nothing", what, 0);
            }
            rig.dueReg("0 " + t + " sets no HANDLER", Rig.HANDLER, -1);
            rig.dueReg("0 " + t, Rig.A, t == 15 ? 5 : 4);
            rig.dueReg("0 " + t, Rig.X, t == 14 ? 4 : 5);
        }
        for (int t : new int[] {0, 1, 2, 3, 4, 5, 6, 7, 4095}) {
            Rig rig = program(4, 5, Rig.set(0), Rig.call(t));
            rig.set(Rig.MODE, 1);
            rig.dueRun("14 " + t, 2, 1);
            rig.dueFault("14 " + t, 32, 1);
            rig.dueReg("A stays", Rig.A, 0);
            rig.dueReg("no EVENT", Rig.EVENTS, 0);
            Check.due("page 0 is not GIVEN", rig.host.entry(0, 0) & 96, 32);
        }
    }

    private static void userModeLets() {
        Check.sentence("so are 14 and of 0 all but 14, 15 in user MODE.");
        for (int code = 1; code < 13; code++) {
            Rig rig = program(4, 0, Rig.op(code, DATA));
            rig.set(Rig.MODE, 1);
            rig.dueRun("instruction " + code, 1, 1);
            rig.dueFault("instruction " + code, 0, 0);
            rig.dueReg("MODE stays", Rig.MODE, 1);
        }
        Rig rig = program(4, 0, Rig.trap(9));
        rig.set(Rig.MODE, 1);
        rig.dueRun("13", 1, 0);
        rig.dueFault("13 is a FAULT of its own", 64, 9);
    }

    /** The word is at 4095: page 255 of the addresses is page 4, page 0 is page 0, without anything between. */
    private static Rig atTheEnd(int word) {
        Rig rig = new Rig(16);
        rig.write(16, Rig.to(2, ALL));
        rig.write(28, 0, 0, 0, Rig.to(3, ALL));
        rig.write(32, Rig.to(0, ALL));
        rig.write(60, 0, 0, 0, Rig.to(4, ALL));
        rig.write(76, 0, 0, 0, word);
        rig.set(Rig.ROOT, 1);
        rig.set(Rig.BITS, 1);
        rig.set(Rig.PC, 4095);
        return rig;
    }

    private static void pcModulo() {
        Check.sentence("PC is one more (modulo 4096) behind a step, but where told.");
        for (int word : new int[] {Rig.set(5), Rig.load(0), Rig.HALT, Rig.op(8, 9), Rig.call(3), 14}) {
            Rig rig = atTheEnd(word);
            rig.dueRun("word " + word, 1, 1);
            rig.dueReg("word " + word, Rig.PC, 0);
        }
        Rig rig = atTheEnd(Rig.jump(7));
        rig.dueRun("6", 1, 1);
        rig.dueReg("where told", Rig.PC, 7);
        rig = atTheEnd(Rig.trap(7));
        rig.set(Rig.HANDLER, 4095);
        rig.dueRun("13", 1, 1);
        rig.dueReg("behind it", Rig.EPC, 0);
        rig.dueReg("where told", Rig.PC, 4095);
        rig = atTheEnd(Rig.op(15, 0));
        rig.set(Rig.HANDLER, 0);
        rig.dueRun("15", 1, 1);
        rig.dueReg("at it", Rig.EPC, 4095);
        rig.dueReg("its address", Rig.EVA, 4095);
        rig = atTheEnd(Rig.load(1000));
        rig.dueRun("a FAULT", 1, 0);
        rig.dueReg("PC stays", Rig.PC, 4095);
    }

    private static void goingBack() {
        Check.sentence("Back: PC is EPC, MODE is EMODE, the VCPU HANDLES no longer.");
        for (int mode = 0; mode < 2; mode++) {
            Rig rig = program(0, 0, Rig.trap(1), Rig.trap(2), Rig.HALT, 0, Rig.BACK);
            rig.set(Rig.HANDLER, 4);
            rig.set(Rig.MODE, mode);
            rig.dueRun("13", 1, 1);
            rig.dueReg("it HANDLES", Rig.HANDLES, 1);
            rig.dueRun("back", 1, 1);
            rig.dueReg("PC", Rig.PC, 1);
            rig.dueReg("MODE", Rig.MODE, mode);
            rig.dueReg("it HANDLES no longer", Rig.HANDLES, 0);
            rig.dueRun("so the next FAULT is handled, too", 1, 1);
            rig.dueReg("EVA", Rig.EVA, 2);
        }
        Rig rig = program(0, 0, Rig.BACK);
        rig.set(Rig.EPC, 4095);
        rig.set(Rig.EMODE, 1);
        rig.dueRun("back where nothing was handled", 1, 1);
        rig.dueReg("PC", Rig.PC, 4095);
        rig.dueReg("MODE", Rig.MODE, 1);
        rig.dueReg("EPC stays", Rig.EPC, 4095);
    }

    private static void halting() {
        Check.sentence("HALT: it is HALTED.");
        Rig rig = program(1, 2, Rig.HALT, Rig.HALT);
        rig.dueRun("HALT", 1000, 1);
        rig.dueReg("HALTED", Rig.STATE, Rig.HALTED);
        rig.dueReg("PC is one more", Rig.PC, 1);
        rig.dueReg("a step", Rig.STEPS, 1);
        rig.dueAccess("it has its accesses", Rig.READ, 0, 0, 0);
        rig.dueReg("HALTED still", Rig.STATE, Rig.HALTED);
        rig.dueAccess("an EVENT", Rig.WRITE, Rig.POST, 0, 0);
        rig.dueRun("HALT with EVENTS", 1000, 1);
        rig.dueReg("HALTED again", Rig.STATE, Rig.HALTED);
        rig.dueReg("its EVENTS stay", Rig.EVENTS, 1);
    }

    private static void nothingOfStepIsDone() {
        Check.sentence("With a FAULT nothing of a step is done but what LOOK-ASIDE, WALKS and REACHING did (one that the "
            + "HANDLER gets counts as a step).");
        int[] words = {Rig.load(100), Rig.store(100), Rig.op(3, 100), Rig.op(4, 100), Rig.op(5, 100), Rig.op(10, 100),
            Rig.op(11, 97), Rig.op(12, 97), Rig.trap(100), Rig.op(15, 1), 17};
        for (int word : words) {
            for (int handler = -1; handler < 1; handler++) {
                Rig rig = paged(word);
                rig.set(Rig.A, 9);
                rig.set(Rig.X, 3);
                rig.set(Rig.HANDLER, handler);
                rig.dueRun("word " + word, 1, handler + 1);
                rig.dueReg("A", Rig.A, 9);
                rig.dueReg("X", Rig.X, 3);
                rig.dueReg("PC", Rig.PC, 0);
                rig.dueReg("steps", Rig.STEPS, handler + 1);
                rig.dueReg("HANDLES", Rig.HANDLES, handler + 1);
                rig.dueReg("state", Rig.STATE, handler == 0 ? Rig.RUNS : Rig.STOPPED);
            }
        }
    }

    private static void whatWalksDidStays() {
        Check.sentence("With a FAULT nothing of a step is done but what LOOK-ASIDE, WALKS and REACHING did");
        Rig rig = paged(Rig.store(20));
        rig.write(32, Rig.to(0, ALL), Rig.to(12, Rig.P | Rig.U));
        rig.set(Rig.A, 9);
        rig.dueAccess("a place without DIRTY", Rig.READ, 16, 0, 0);
        Check.due("place 0", rig.host.aside(0, 0, 0), 1);
        rig.dueRun("a FAULT", 1, 0);
        rig.dueFault("a FAULT", 3, 20);
        Check.due("place 0 is empty", rig.host.aside(0, 0, 0), -1);
        Check.due("the FETCH's place stays", rig.host.aside(0, 1, 0), 0);
        Check.due("the FETCH's marks stay", rig.host.peek(0, 32), Rig.to(0, ALL | Rig.ACC));
        Check.due("nothing is written", rig.host.peek(0, 12 * 16 + 4), 0);
        rig = paged(Rig.load(1024));
        rig.write(20, Rig.to(13, ALL));
        rig.dueRun("a FAULT in a FRESH table", 1, 0);
        Check.due("it was REACHED", rig.host.entry(0, 13) & 127, 32 + 8);
    }

    private static void handlerGetsFault() {
        Check.sentence("If there is a HANDLER, and the VCPU does not HANDLE: EPC is PC (behind it for 64), EMODE the "
            + "MODE, ECODE the CODE, EVA the address; MODE is 0, PC the HANDLER; it HANDLES.");
        int[] words = {Rig.trap(100), Rig.op(15, 100), Rig.load(100), Rig.store(100)};
        for (int handler : new int[] {0, 4095}) {
            for (int mode = 0; mode < 2; mode++) {
                int[] codes = {64, 32, 4 * mode, 2 + 4 * mode};
                int[] addresses = {100, 1, 100, 100};
                for (int i = 0; i < words.length; i++) {
                    Rig rig = paged(Rig.set(1), words[i]);
                    rig.set(Rig.HANDLER, handler);
                    rig.set(Rig.MODE, mode);
                    rig.dueRun("case " + i, 2, 2);
                    rig.dueReg("EPC", Rig.EPC, i == 0 ? 2 : 1);
                    rig.dueReg("EMODE", Rig.EMODE, mode);
                    rig.dueReg("ECODE", Rig.ECODE, codes[i]);
                    rig.dueReg("EVA", Rig.EVA, addresses[i]);
                    rig.dueReg("MODE", Rig.MODE, 0);
                    rig.dueReg("PC", Rig.PC, handler);
                    rig.dueReg("HANDLES", Rig.HANDLES, 1);
                    rig.dueReg("runs", Rig.STATE, Rig.RUNS);
                    rig.dueExit("no EXIT", 0, 0, 0, 0, 0);
                }
            }
        }
        Rig rig = paged(Rig.jump(1000));
        rig.set(Rig.HANDLER, 0);
        rig.dueRun("of a FETCH", 2, 2);
        rig.dueReg("EPC", Rig.EPC, 1000);
        rig.dueReg("EVA", Rig.EVA, 1000);
        rig.dueReg("ECODE", Rig.ECODE, 16);
    }

    private static void faultWithoutHandler() {
        Check.sentence("Otherwise an EXIT FAULTED (page and word 0, the address, kind 0).");
        int[] words = {Rig.trap(100), Rig.op(15, 100), Rig.load(100), Rig.store(100)};
        int[] addresses = {100, 1, 100, 100};
        int[] codes = {64, 32, 4, 6};
        for (int i = 0; i < words.length; i++) {
            Rig rig = paged(Rig.set(1), words[i]);
            rig.set(Rig.MODE, 1);
            rig.set(Rig.EPC, 77);
            rig.dueRun("case " + i, 9, 1);
            rig.dueExit("case " + i, Rig.FAULTED, 0, addresses[i], 0, 0);
            rig.dueFault("case " + i, codes[i], addresses[i]);
            rig.dueReg("STOPPED", Rig.STATE, Rig.STOPPED);
            rig.dueReg("PC stays", Rig.PC, 1);
            rig.dueReg("MODE stays", Rig.MODE, 1);
            rig.dueReg("EPC stays", Rig.EPC, 77);
            rig.dueReg("EMODE stays", Rig.EMODE, 0);
            rig.dueReg("ECODE stays", Rig.ECODE, 0);
            rig.dueReg("EVA stays", Rig.EVA, 0);
            rig.dueReg("it does not HANDLE", Rig.HANDLES, 0);
            rig.set(Rig.HANDLER, 0);
            rig.dueRun("with a HANDLER", 1, 1);
            rig.dueReg("it HANDLES", Rig.HANDLES, 1);
        }
        Rig rig = paged(Rig.jump(1000));
        rig.dueRun("of a FETCH", 9, 1);
        rig.dueExit("of a FETCH: kind 0", Rig.FAULTED, 0, 1000, 0, 0);
    }

    private static void faultWhileHandling() {
        Check.sentence("If there is a HANDLER, and the VCPU does not HANDLE:");
        int[] words = {Rig.trap(200), Rig.op(15, 0), Rig.load(200)};
        int[] addresses = {200, 4, 200};
        for (int i = 0; i < words.length; i++) {
            Rig rig = paged(Rig.trap(100), 0, 0, 0, words[i], Rig.HALT);
            rig.set(Rig.HANDLER, 4);
            rig.set(Rig.MODE, 1);
            rig.dueRun("a FAULT in the HANDLER", 9, 1);
            rig.dueExit("FAULTED", Rig.FAULTED, 0, addresses[i], 0, 0);
            rig.dueReg("STOPPED", Rig.STATE, Rig.STOPPED);
            rig.dueReg("PC stays", Rig.PC, 4);
            rig.dueReg("EPC stays", Rig.EPC, 1);
            rig.dueReg("EMODE stays", Rig.EMODE, 1);
            rig.dueReg("ECODE stays", Rig.ECODE, 64);
            rig.dueReg("EVA stays", Rig.EVA, 100);
            rig.dueReg("it HANDLES still", Rig.HANDLES, 1);
            rig.dueRun("again", 9, 0);
            rig.set(Rig.PC, 5);
            rig.dueRun("it goes on elsewhere", 9, 1);
        }
    }

    private static void exitStops() {
        Check.sentence("With an EXIT the VCPU is STOPPED; PC stays.");
        int[] words = {Rig.load(DATA), Rig.store(DATA), Rig.op(3, DATA), Rig.op(10, DATA), Rig.op(11, DATA - 3),
            Rig.op(12, DATA - 3)};
        for (int word : words) {
            Rig rig = program(9, 3, Rig.set(8), word, Rig.HALT);
            rig.set(Rig.HANDLER, 0);
            rig.host.deny(0, 5, 7);
            rig.dueRun("word " + word, 9, 1);
            rig.dueReg("STOPPED", Rig.STATE, Rig.STOPPED);
            rig.dueReg("PC stays", Rig.PC, 1);
            rig.dueReg("A stays", Rig.A, 8);
            rig.dueReg("X stays", Rig.X, 3);
            rig.dueReg("no HANDLER is asked", Rig.HANDLES, 0);
            Check.due("the reason", rig.host.exit(0, 0), Rig.DENIED);
            rig.host.deny(0, 5, 0);
            rig.dueRun("it runs again", 9, 2);
            rig.dueReg("HALTED", Rig.STATE, Rig.HALTED);
        }
    }

    /** One CALL of the host with A, from page 0; what A is then. */
    private static void dueCall(Rig rig, int t, int a, int want) {
        rig.write(0, Rig.call(t));
        rig.set(Rig.PC, 0);
        rig.set(Rig.A, a);
        rig.dueRun("CALL " + t + " with A = " + a, 1, 1);
        rig.dueReg("CALL " + t + " with A = " + a, Rig.A, want);
        rig.dueReg("PC", Rig.PC, 1);
    }

    private static void givingEdges() {
        Check.sentence("CALLS by t: 1: page A (modulo 256) is GIVEN: A is 0 then, and its frame or SLOT is free; 65535 "
            + "if it is no memory, or GIVEN already;");
        Rig rig = new Rig(20);
        dueCall(rig, 1, 19, 0);
        Check.due("the last page", rig.host.entry(0, 19), 96);
        dueCall(rig, 1, 19, 65535);
        Check.due("it stays GIVEN", rig.host.entry(0, 19), 96);
        dueCall(rig, 1, 256 + 5, 0);
        Check.due("modulo 256", rig.host.entry(0, 5), 96);
        dueCall(rig, 1, 65280 + 5, 65535);
        dueCall(rig, 1, 65280 + 6, 0);
        for (int none : new int[] {20, 31, 127, 128, 239, 240, 243, 244, 255, 256 + 20, 65535}) {
            dueCall(rig, 1, none, 65535);
        }
        Check.due("GIVEN", rig.host.count(0, 4), 3);
        Check.due("no TABLE more", rig.host.host(0), 128 - 4);
    }

    private static void givingFreesFrameOrSlot() {
        Check.sentence("A is 0 then, and its frame or SLOT is free;");
        Rig rig = new Rig(20);
        Hosts.fillPage(rig.host, 0, 0, 0);
        Hosts.fillPage(rig.host, 0, 3, 70);
        Hosts.fillPage(rig.host, 0, 4, 80);
        rig.host.swap(0, 4);
        int free = rig.host.host(0);
        int frame = rig.host.entry(0, 3) / 256;
        dueCall(rig, 1, 3, 0);
        Hosts.dueFree(rig.host, frame);
        Check.due("a frame", rig.host.host(0), free + 1);
        Check.due("no SLOT", rig.host.host(1), 63);
        dueCall(rig, 1, 4, 0);
        Check.due("no frame", rig.host.host(0), free + 1);
        Check.due("a SLOT", rig.host.host(1), 64);
        Check.due("peek without frame and SLOT", rig.host.peek(0, 4 * 16), 0);
        dueCall(rig, 1, 6, 0);
        Check.due("a FRESH one has neither", rig.host.host(0), free + 1);
        dueCall(rig, 1, 16, 0);
        Check.due("its TABLE comes", rig.host.host(0), free);
        Check.due("pages HERE", rig.host.count(0, 2), 1);
        Check.due("pages GIVEN", rig.host.count(0, 4), 4);
    }

    private static void givingWithoutRoom() {
        Check.sentence("65534 without room for its TABLE.");
        NestedPager host = Hosts.withSlots(0);
        host.poke(1, 0, Rig.call(1), Rig.call(1), Rig.call(1), Rig.call(1));
        int[] a = {64, 127, 128, 60};
        int[] want = {65534, 65534, 65535, 0};
        for (int i = 0; i < 4; i++) {
            host.set(1, Rig.A, a[i]);
            Check.due("a step", host.run(1, 1), 1);
            Check.due("page " + a[i], host.get(1, Rig.A), want[i]);
        }
        Check.due("not GIVEN", host.entry(1, 64), 0);
        Check.due("GIVEN", host.count(1, 4), 1);
        host = Hosts.withSlots(1);
        int frame = Hosts.firstPageFrame(host, 0);
        host.poke(1, 0, Rig.call(1), 0, 0, 0);
        host.set(1, Rig.A, 64);
        Check.due("a step", host.run(1, 1), 1);
        Check.due("room by RECLAIMING", host.get(1, Rig.A), 0);
        Hosts.dueOwner(host, frame, 1, 1, 64);
        Check.due("GIVEN", host.entry(1, 64), 96);
    }

    private static void givingOwnPage() {
        Check.sentence("page A (modulo 256) is GIVEN: A is 0 then, and its frame or SLOT is free;");
        Rig rig = new Rig(20);
        dueCall(rig, 1, 0, 0);
        Check.due("the program's own page", rig.host.entry(0, 0), 96);
        rig.dueRun("the next FETCH", 1, 0);
        rig.dueExit("binds at once", Rig.GIVEN, 1, 1, 2, 0);
    }

    private static void freshAgain() {
        Check.sentence("2: page A is FRESH again: 0; 65535 if it was not GIVEN.");
        Rig rig = new Rig(20);
        Hosts.fillPage(rig.host, 0, 19, 70);
        dueCall(rig, 1, 19, 0);
        dueCall(rig, 2, 19, 0);
        Check.due("FRESH", rig.host.entry(0, 19), 0);
        Check.due("GIVEN", rig.host.count(0, 4), 0);
        dueCall(rig, 2, 19, 65535);
        int demands = rig.host.count(0, 5);
        rig.dueAccess("its words are 0", Rig.READ, 19 * 16 + 5, 0, 0);
        Check.due("a DEMAND", rig.host.count(0, 5), demands + 1);
        dueCall(rig, 1, 19, 0);
        dueCall(rig, 2, 256 + 19, 0);
        Check.due("modulo 256, as with 1", rig.host.entry(0, 19), 0);
    }

    private static void freshAgainRefused() {
        Check.sentence("65535 if it was not GIVEN.");
        Rig rig = new Rig(50);
        rig.write(3 * 16, 5);
        rig.write(4 * 16, 6);
        rig.host.swap(0, 4);
        int here = rig.host.entry(0, 3);
        int swapped = rig.host.entry(0, 4);
        for (int page : new int[] {3, 4, 5, 16, 49, 50, 127, 128, 240, 243, 255, 65535}) {
            dueCall(rig, 2, page, 65535);
        }
        Check.due("HERE as before", rig.host.entry(0, 3), here);
        Check.due("SWAPPED as before", rig.host.entry(0, 4), swapped);
        Check.due("no TABLE comes", rig.host.frame(0, 1), 0);
    }

    private static void deniedStaysWithBoth() {
        Check.sentence("(DENIED stays with both; ACCESSED, DIRTY go.)");
        for (int denied = 0; denied < 8; denied++) {
            Rig rig = new Rig(20);
            rig.dueAccess("page 3", Rig.WRITE, 3 * 16, 5, 0);
            rig.dueAccess("page 4", Rig.WRITE, 4 * 16, 5, 0);
            rig.host.swap(0, 4);
            for (int page = 3; page < 6; page++) {
                rig.host.deny(0, page, denied);
                dueCall(rig, 1, page, 0);
                Check.due("GIVEN", rig.host.entry(0, page), 96 + denied);
                dueCall(rig, 2, page, 0);
                Check.due("FRESH", rig.host.entry(0, page), denied);
            }
        }
        Rig rig = new Rig(20);
        dueCall(rig, 1, 5, 0);
        Check.due("deny of a GIVEN page", rig.host.deny(0, 5, 6), 0);
        dueCall(rig, 2, 5, 0);
        Check.due("FRESH", rig.host.entry(0, 5), 6);
    }

    private static void targetOfGuest() {
        Check.sentence("3: A is the guest's TARGET.");
        Rig rig = new Rig(20);
        dueCall(rig, 3, 9, 0);
        rig.host.target(0, 128);
        dueCall(rig, 3, 9, 128);
        rig.host.guest(1);
        rig.host.target(1, 7);
        dueCall(rig, 3, 9, 128);
    }

    private static void flushForAllVcpus() {
        Check.sentence("4: FLUSH 0 for all VCPUS of the guest: A is how many VCPUS these are.");
        Rig rig = new Rig(16);
        NestedPager host = rig.host;
        dueCall(rig, 4, 9, 1);
        host.guest(16);
        for (int i = 1; i < 8; i++) {
            host.vcpu(i == 4 ? 1 : 0);
        }
        for (int guest = 0; guest < 2; guest++) {
            host.poke(guest, 16, Rig.to(2, ALL), 0, 0, 0);
            host.poke(guest, 32, Rig.to(3, ALL | Rig.GLOBAL), Rig.to(4, ALL), 0, 0);
        }
        for (int i = 0; i < 8; i++) {
            host.set(i, Rig.ROOT, 1);
            host.set(i, Rig.BITS, 1);
            host.set(i, Rig.ASID, i % 4);
            host.access(i, 0, 0, 0);
            host.access(i, 0, 16, 0);
        }
        rig.set(Rig.BITS, 0);
        dueCall(rig, 4, 9, 7);
        for (int i = 0; i < 8; i++) {
            Check.due("place 0 of VCPU " + i, host.aside(i, 0, 0), i == 4 ? 0 : -1);
            Check.due("place 1 of VCPU " + i, host.aside(i, 1, 0), i == 4 ? 1 : -1);
        }
    }

    private static void eventForVcpu() {
        Check.sentence("5: VCPU A, if it is one of the same guest, gets an EVENT: 0, else 65535.");
        Rig rig = new Rig(16);
        NestedPager host = rig.host;
        host.guest(1);
        host.vcpu(1);
        for (int i = 2; i < 8; i++) {
            Check.badState("not there yet", () -> host.get(7, 0));
            dueCall(rig, 5, 7, 65535);
            host.vcpu(0);
        }
        dueCall(rig, 5, 7, 0);
        dueCall(rig, 5, 0, 0);
        dueCall(rig, 5, 1, 65535);
        for (int none : new int[] {8, 9, 256, 263, 32768, 65535}) {
            dueCall(rig, 5, none, 65535);
        }
        for (int i = 0; i < 8; i++) {
            Check.due("EVENTS of VCPU " + i, host.get(i, Rig.EVENTS), i == 0 || i == 7 ? 1 : 0);
        }
        host.destroy(1);
        dueCall(rig, 5, 1, 65535);
    }

    private static void eventsTaken() {
        Check.sentence("6: A is how many EVENTS it had; it has none then.");
        Rig rig = new Rig(16);
        int second = rig.host.vcpu(0);
        dueCall(rig, 6, 9, 0);
        for (int i = 0; i < 3; i++) {
            rig.dueAccess("an EVENT for both", Rig.WRITE, Rig.POST, 1, 0);
        }
        dueCall(rig, 6, 9, 3);
        rig.dueReg("none then", Rig.EVENTS, 0);
        Check.due("another VCPU's stay", rig.host.get(second, Rig.EVENTS), 3);
        dueCall(rig, 6, 9, 0);
    }

    private static void otherCalls() {
        Check.sentence("Others: A is 65535.");
        Rig rig = new Rig(16);
        rig.dueAccess("an EVENT", Rig.WRITE, Rig.POST, 1, 0);
        for (int t : new int[] {0, 7, 8, 256, 257, 4095}) {
            dueCall(rig, t, 0, 65535);
        }
        rig.dueReg("the EVENT stays", Rig.EVENTS, 1);
        Check.due("page 0 stays", rig.host.entry(0, 0) & 96, 32);
    }
}
