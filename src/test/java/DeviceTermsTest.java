import java.util.List;

/** A test for each sentence of "DEVICES" (Terms) that names an edge; each begins with the sentence. */
final class DeviceTermsTest {
    private DeviceTermsTest() {
    }

    public static void main(String[] args) {
        otherWordsAreZero();
        lowestByteIsPrinted();
        firstTwoHundredAreKept();
        mostPrintedThatIsRead();
        ticksModulo();
        alarmOfZero();
        alarmOfOneAndTheGreatest();
        alarmIsForThisVcpu();
        alarmThatIsLeft();
        sectorsAndPagesModulo();
        sectorsAtFirst();
        sectorsHaveSixteenWords();
        loadReachesForWrite();
        storeReachesForRead();
        reasonOfLastCommand();
        reasonWithoutRoom();
        reasonIsNoneOfTheVcpu();
        mailForGuestThatIsNotThere();
        mailUpToEight();
        mailIsAnEventForEach();
        oldestMailGoes();
        eventsUpTo255();
        tickIsEachStepTried();
        tickIsEachAccess();
        alarmGoesFirst();
        Check.end();
    }

    private static void otherWordsAreZero() {
        Check.sentence("DEVICES (READ and WRITE; other words than told are 0, and ignored)");
        Rig rig = new Rig(4);
        rig.host.guest(1);
        rig.dueAccess("print one", Rig.WRITE, Rig.CONSOLE, 65, 0);
        rig.dueAccess("an ALARM far away", Rig.WRITE, Rig.CLOCK + 1, 60000, 0);
        rig.dueAccess("sector 5", Rig.WRITE, Rig.DISK, 5, 0);
        rig.dueAccess("page 3", Rig.WRITE, Rig.DISK + 1, 3, 0);
        rig.dueAccess("mail", Rig.WRITE, Rig.POST, 77, 0);
        int[][] unread = {{1, 15}, {2, 15}, {2, 2, 4, 15}, {0, 3, 6, 15}};
        for (int device = 0; device < 4; device++) {
            for (int i = 0; i < unread[device].length; i += 2) {
                for (int word = unread[device][i]; word <= unread[device][i + 1]; word++) {
                    rig.dueAccess("READ", Rig.READ, (240 + device) * 16 + word, 0, 0);
                }
            }
        }
        int[][] unwritten = {{1, 15}, {0, 0, 2, 15}, {3, 15}, {4, 15}};
        List<Integer> before = guestsOf(rig);
        int written = 0;
        for (int device = 0; device < 4; device++) {
            for (int i = 0; i < unwritten[device].length; i += 2) {
                for (int word = unwritten[device][i]; word <= unwritten[device][i + 1]; word++) {
                    rig.dueAccess("WRITTEN", Rig.WRITE, (240 + device) * 16 + word, 1, 0);
                    written++;
                }
            }
        }
        rig.dueAccess("the ALARM went on", Rig.READ, Rig.CLOCK + 1, 0,
            60000 - (rig.host.count(0, 8) - 1));
        Check.holds("nothing else changes", before.equals(guestsOf(rig)));
        rig.dueAccess("the sector", Rig.READ, Rig.DISK, 0, 5);
        rig.dueAccess("the page", Rig.READ, Rig.DISK + 1, 0, 3);
        rig.dueAccess("the MAIL", Rig.READ, Rig.POST + 4, 0, 77);
        Check.due("so many were tried", written, 15 + 15 + 13 + 12);
    }

    /** What a guest's devices change, without its TICKS. */
    private static List<Integer> guestsOf(Rig rig) {
        NestedPager host = rig.host;
        return List.of(host.count(0, 2), host.count(0, 9), host.count(0, 10), host.count(1, 10), host.printed(0, 0),
            host.printed(0, 1), rig.get(Rig.EVENTS), host.exit(0, 0), host.host(0));
    }

    private static void lowestByteIsPrinted() {
        Check.sentence("240: word 0 WRITTEN: its lowest byte is printed (of a guest the first 200 are kept);");
        Rig rig = new Rig(1);
        int[] words = {0, 255, 256, 0x1234, 65535, 0xFF00};
        int[] bytes = {0, 255, 0, 0x34, 255, 0};
        for (int i = 0; i < words.length; i++) {
            Check.due("not yet", rig.host.printed(0, i), -1);
            rig.dueAccess("print", Rig.WRITE, Rig.CONSOLE, words[i], 0);
            Check.due("byte " + i, rig.host.printed(0, i), bytes[i]);
            rig.dueAccess("how many", Rig.READ, Rig.CONSOLE, 0, i + 1);
        }
    }

    private static void firstTwoHundredAreKept() {
        Check.sentence("240: word 0 WRITTEN: its lowest byte is printed (of a guest the first 200 are kept);");
        NestedPager host = new NestedPager();
        host.guest(1);
        host.guest(1);
        host.vcpu(0);
        host.vcpu(1);
        for (int i = 0; i < 199; i++) {
            host.access(0, 1, Rig.CONSOLE, i % 100);
        }
        Check.due("byte 199 is not there yet", host.printed(0, 199), -1);
        host.access(0, 1, Rig.CONSOLE, 211);
        Check.due("byte 199 is kept", host.printed(0, 199), 211);
        Check.due("byte 200 is not there", host.printed(0, 200), -1);
        host.access(0, 1, Rig.CONSOLE, 212);
        host.access(0, 1, Rig.CONSOLE, 213);
        Check.due("byte 200 is not kept", host.printed(0, 200), -1);
        Check.due("byte 201 is not kept", host.printed(0, 201), -1);
        Check.due("byte 199 stays", host.printed(0, 199), 211);
        Check.due("byte 0 stays", host.printed(0, 0), 0);
        Check.due("they are counted", host.access(0, 0, Rig.CONSOLE, 0), 202);
        Check.due("count() tells all", host.count(0, 9), 202);
        host.access(1, 1, Rig.CONSOLE, 9);
        Check.due("another guest's are kept", host.printed(1, 0), 9);
    }

    private static void mostPrintedThatIsRead() {
        Check.sentence("READ: how many were (65535 at most; count() tells all).");
        Rig rig = new Rig(1);
        int print = Rig.store(Rig.CONSOLE);
        rig.write(0, print, print, print, print, print, print, print, print, print, Rig.jump(0));
        for (int i = 0; i < 72; i++) {
            rig.dueRun("900 are printed", 1000, 1000);
        }
        rig.dueRun("734 are printed", 815, 815);
        rig.dueAccess("one fewer", Rig.READ, Rig.CONSOLE, 0, 65534);
        rig.dueRun("another", 1, 1);
        rig.dueAccess("the most", Rig.READ, Rig.CONSOLE, 0, 65535);
        rig.dueRun("another", 1, 1);
        rig.dueAccess("no more", Rig.READ, Rig.CONSOLE, 0, 65535);
        Check.due("count() tells all", rig.host.count(0, 9), 65536);
        rig.dueAccess("another", Rig.WRITE, Rig.CONSOLE, 0, 0);
        rig.dueAccess("no more", Rig.READ, Rig.CONSOLE, 0, 65535);
        Check.due("count() tells all", rig.host.count(0, 9), 65537);
    }

    private static void ticksModulo() {
        Check.sentence("241: word 0 READ: TICKS of the guest, modulo 65536;");
        Rig rig = new Rig(1);
        rig.write(0, Rig.jump(0));
        for (int i = 0; i < 65; i++) {
            rig.dueRun("a thousand", 1000, 1000);
        }
        rig.dueRun("more", 534, 534);
        rig.dueAccess("the greatest", Rig.READ, Rig.CLOCK, 0, 65535);
        rig.dueAccess("0 again", Rig.READ, Rig.CLOCK, 0, 0);
        rig.dueAccess("1 again", Rig.READ, Rig.CLOCK, 0, 1);
        Check.due("count() tells all", rig.host.count(0, 8), 65537);
    }

    private static void alarmOfZero() {
        Check.sentence("word 1 WRITTEN: ALARM in so many of its TICKS (0: none), for this VCPU;");
        Rig rig = new Rig(1);
        rig.dueAccess("none at first", Rig.READ, Rig.CLOCK + 1, 0, 0);
        rig.dueAccess("0", Rig.WRITE, Rig.CLOCK + 1, 0, 0);
        for (int i = 0; i < 3; i++) {
            rig.dueAccess("none", Rig.READ, Rig.CLOCK + 1, 0, 0);
        }
        rig.dueReg("no EVENT", Rig.EVENTS, 0);
        rig.dueAccess("2", Rig.WRITE, Rig.CLOCK + 1, 2, 0);
        rig.dueAccess("0 again", Rig.WRITE, Rig.CLOCK + 1, 0, 0);
        rig.dueAccess("none", Rig.READ, Rig.CLOCK + 1, 0, 0);
        rig.dueAccess("none", Rig.READ, Rig.CLOCK + 1, 0, 0);
        rig.dueReg("no EVENT", Rig.EVENTS, 0);
    }

    private static void alarmOfOneAndTheGreatest() {
        Check.sentence("word 1 WRITTEN: ALARM in so many of its TICKS (0: none), for this VCPU;");
        Rig rig = new Rig(1);
        rig.write(0, Rig.jump(0));
        rig.dueAccess("1", Rig.WRITE, Rig.CLOCK + 1, 1, 0);
        rig.dueReg("not yet", Rig.EVENTS, 0);
        rig.dueRun("the next TICK", 1, 1);
        rig.dueReg("an EVENT", Rig.EVENTS, 1);
        rig.dueAccess("65535", Rig.WRITE, Rig.CLOCK + 1, 65535, 0);
        for (int i = 0; i < 65; i++) {
            rig.dueRun("a thousand", 1000, 1000);
        }
        rig.dueRun("more", 533, 533);
        rig.dueAccess("one is left", Rig.READ, Rig.CLOCK + 1, 0, 1);
        rig.dueReg("not yet", Rig.EVENTS, 1);
        rig.dueRun("the last", 1, 1);
        rig.dueReg("an EVENT", Rig.EVENTS, 2);
        rig.dueRun("it comes once", 1000, 1000);
        rig.dueReg("no more", Rig.EVENTS, 2);
    }

    private static void alarmIsForThisVcpu() {
        Check.sentence("word 1 WRITTEN: ALARM in so many of its TICKS (0: none), for this VCPU;");
        NestedPager host = new NestedPager();
        host.guest(1);
        host.guest(1);
        host.vcpu(1);
        for (int i = 1; i < 8; i++) {
            host.vcpu(0);
        }
        Check.due("VCPU 7 sets it", host.access(7, 1, Rig.CLOCK + 1, 2), 0);
        Check.due("a TICK of another guest", host.access(0, 0, 0, 0), 0);
        Check.due("a TICK of another guest", host.access(0, 0, 0, 0), 0);
        Check.due("a TICK of VCPU 1", host.access(1, 0, 0, 0), 0);
        Check.due("not yet", host.get(7, Rig.EVENTS), 0);
        Check.due("a TICK of VCPU 2", host.access(2, 0, 0, 0), 0);
        for (int i = 0; i < 8; i++) {
            Check.due("EVENTS of VCPU " + i, host.get(i, Rig.EVENTS), i == 7 ? 1 : 0);
        }
        host.access(7, 1, Rig.CLOCK + 1, 5);
        host.access(3, 1, Rig.CLOCK + 1, 1);
        host.access(7, 0, 0, 0);
        Check.due("the one that wrote last", host.get(3, Rig.EVENTS), 1);
        Check.due("not the one before", host.get(7, Rig.EVENTS), 1);
    }

    private static void alarmThatIsLeft() {
        Check.sentence("READ: how many are left (0: none).");
        Rig rig = new Rig(1);
        rig.dueAccess("3", Rig.WRITE, Rig.CLOCK + 1, 3, 0);
        for (int left = 2; left >= 0; left--) {
            rig.dueAccess("left", Rig.READ, Rig.CLOCK + 1, 0, left);
        }
        rig.dueAccess("it stays 0", Rig.READ, Rig.CLOCK + 1, 0, 0);
        rig.dueReg("one EVENT", Rig.EVENTS, 1);
    }

    private static void command(Rig rig, int sector, int page, int what) {
        rig.dueAccess("the sector", Rig.WRITE, Rig.DISK, sector, 0);
        rig.dueAccess("the page", Rig.WRITE, Rig.DISK + 1, page, 0);
        rig.dueAccess("the command", Rig.WRITE, Rig.DISK + 2, what, 0);
    }

    private static void sectorsAndPagesModulo() {
        Check.sentence("word 0 the sector (modulo 16 when written), 1 the page (modulo 256), both READ as they are;");
        Rig rig = new Rig(4);
        rig.dueAccess("at first", Rig.READ, Rig.DISK, 0, 0);
        rig.dueAccess("at first", Rig.READ, Rig.DISK + 1, 0, 0);
        for (int word : new int[] {15, 16, 17, 255, 256, 257, 65535}) {
            rig.dueAccess("WRITTEN", Rig.WRITE, Rig.DISK, word, 0);
            rig.dueAccess("modulo 16", Rig.READ, Rig.DISK, 0, word % 16);
            rig.dueAccess("WRITTEN", Rig.WRITE, Rig.DISK + 1, word, 0);
            rig.dueAccess("modulo 256", Rig.READ, Rig.DISK + 1, 0, word % 256);
        }
        Hosts.fillPage(rig.host, 0, 2, 500);
        command(rig, 16 + 3, 256 + 2, 2);
        rig.dueAccess("no reason", Rig.READ, Rig.DISK + 3, 0, 0);
        command(rig, 3, 1, 1);
        Hosts.duePage(rig.host, 0, 1, 500);
    }

    private static void sectorsAtFirst() {
        Check.sentence("242: a DISK of the guest, SECTORS 0 .. 15 of 16 words, at first 0:");
        Rig rig = new Rig(2);
        for (int sector = 0; sector < 16; sector++) {
            Hosts.fillPage(rig.host, 0, 1, 900);
            command(rig, sector, 1, 1);
            for (int i = 0; i < 16; i++) {
                Check.due("word " + i + " of sector " + sector, rig.host.peek(0, 16 + i), 0);
            }
        }
    }

    private static void sectorsHaveSixteenWords() {
        Check.sentence("242: a DISK of the guest, SECTORS 0 .. 15 of 16 words, at first 0:");
        Rig rig = new Rig(2);
        for (int sector = 0; sector < 16; sector++) {
            Hosts.fillPage(rig.host, 0, 1, 100 * sector + 7);
            command(rig, sector, 1, 2);
        }
        for (int sector = 0; sector < 16; sector++) {
            command(rig, sector, 0, 1);
            Hosts.duePage(rig.host, 0, 0, 100 * sector + 7);
        }
        rig.host.guest(1);
        int other = rig.host.vcpu(1);
        rig.host.access(other, 1, Rig.DISK + 2, 1);
        Check.due("another guest's is another DISK", rig.host.peek(1, 0), 0);
    }

    private static void loadReachesForWrite() {
        Check.sentence("word 2 WRITTEN: 1: the page is REACHED for WRITE, and gets the sector's words;");
        Rig rig = new Rig(20);
        NestedPager host = rig.host;
        command(rig, 0, 19, 1);
        Check.due("a FRESH page: ACCESSED and DIRTY", host.entry(0, 19), 2 * 256 + 32 + 16 + 8);
        Check.due("a DEMAND", host.count(0, 5), 1);
        Hosts.fillPage(host, 0, 19, 60);
        host.harvest(0);
        host.swap(0, 19);
        host.deny(0, 19, 1 + 4);
        command(rig, 0, 19, 1);
        Check.due("a SWAPPED page, not DENIED for WRITE", host.entry(0, 19), 2 * 256 + 32 + 16 + 8 + 5);
        Check.due("a SWAPIN", host.count(0, 6), 1);
        Check.due("its words", host.peek(0, 19 * 16 + 15), 0);
        Hosts.fillPage(host, 0, 19, 60);
        host.deny(0, 19, 2);
        command(rig, 0, 19, 1);
        Hosts.duePage(host, 0, 19, 60);
        rig.dueAccess("DENIED", Rig.READ, Rig.DISK + 3, 0, Rig.DENIED);
    }

    private static void storeReachesForRead() {
        Check.sentence("2: it is REACHED for READ, and the sector gets its words;");
        Rig rig = new Rig(20);
        NestedPager host = rig.host;
        Hosts.fillPage(host, 0, 19, 60);
        host.harvest(0);
        host.deny(0, 19, 2 + 4);
        command(rig, 9, 19, 2);
        Check.due("ACCESSED alone", host.entry(0, 19), 2 * 256 + 32 + 8 + 6);
        host.deny(0, 18, 1);
        command(rig, 9, 18, 2);
        rig.dueAccess("DENIED", Rig.READ, Rig.DISK + 3, 0, Rig.DENIED);
        command(rig, 9, 0, 1);
        Hosts.duePage(host, 0, 0, 60);
        command(rig, 9, 17, 2);
        Check.due("a FRESH page: a DEMAND", host.entry(0, 17) & 127, 32 + 8);
        command(rig, 9, 0, 1);
        Check.due("its words are 0", host.peek(0, 15), 0);
    }

    private static void reasonOfLastCommand() {
        Check.sentence("word 3 READ: 0, or the reason if that was an EXIT (5 for a DEVICE), of the last such command;");
        Rig rig = new Rig(20);
        rig.dueAccess("none yet", Rig.READ, Rig.DISK + 3, 0, 0);
        Hosts.give(rig, 7);
        int[] pages = {20, 0, 127, 128, 239, 240, 243, 244, 255, 7, 19};
        int[] want = {1, 0, 1, 1, 1, 5, 5, 1, 1, 3, 0};
        for (int what = 1; what < 3; what++) {
            for (int i = 0; i < pages.length; i++) {
                command(rig, 0, pages[i], what);
                rig.dueAccess("page " + pages[i], Rig.READ, Rig.DISK + 3, 0, want[i]);
                rig.dueAccess("and again", Rig.READ, Rig.DISK + 3, 0, want[i]);
            }
        }
        command(rig, 0, 240, 1);
        for (int none : new int[] {0, 3, 257, 258, 65535}) {
            command(rig, 0, 3, none);
            rig.dueAccess("no command", Rig.READ, Rig.DISK + 3, 0, Rig.DEVICE);
        }
        Check.due("page 3 is not REACHED", rig.host.entry(0, 3), 0);
        rig.dueAccess("word 3 is not WRITTEN", Rig.WRITE, Rig.DISK + 3, 0, 0);
        rig.dueAccess("it stays", Rig.READ, Rig.DISK + 3, 0, Rig.DEVICE);
    }

    private static void reasonWithoutRoom() {
        Check.sentence("word 3 READ: 0, or the reason if that was an EXIT (5 for a DEVICE), of the last such command;");
        NestedPager host = Hosts.withSlots(0);
        for (int page : new int[] {60, 64, 127}) {
            for (int what = 1; what < 3; what++) {
                host.access(1, 1, Rig.DISK + 1, page);
                Check.due("the command is no EXIT", host.access(1, 1, Rig.DISK + 2, what), 0);
                Check.due("NOROOM", host.access(1, 0, Rig.DISK + 3, 0), Rig.NOROOM);
            }
        }
        Check.due("another guest's", host.access(0, 0, Rig.DISK + 3, 0), 0);
        host.access(1, 1, Rig.DISK + 1, 0);
        host.access(1, 1, Rig.DISK + 2, 1);
        Check.due("a page HERE", host.access(1, 0, Rig.DISK + 3, 0), 0);
    }

    private static void reasonIsNoneOfTheVcpu() {
        Check.sentence("it is none of the VCPU.");
        Rig rig = new Rig(20);
        rig.set(Rig.A, 1);
        rig.write(0, Rig.store(Rig.DISK + 2), Rig.HALT);
        rig.dueAccess("no memory", Rig.WRITE, Rig.DISK + 1, 200, 0);
        rig.dueRun("the step is done", 2, 2);
        rig.dueReg("HALTED, not STOPPED", Rig.STATE, Rig.HALTED);
        rig.dueExit("no EXIT", 0, 0, 0, 0, 0);
        rig.dueAccess("but a reason", Rig.READ, Rig.DISK + 3, 0, Rig.NOTHING);
    }

    private static void mailForGuestThatIsNotThere() {
        Check.sentence("243: word g, 0 .. 3, WRITTEN: guest g, if it is there and has fewer than 8 MAILS, gets the "
            + "word, and each of its VCPUS an EVENT;");
        NestedPager host = new NestedPager();
        for (int guest = 0; guest < 4; guest++) {
            host.guest(1);
        }
        host.vcpu(0);
        host.destroy(3);
        for (int g = 0; g < 4; g++) {
            Check.due("word " + g, host.access(0, 1, Rig.POST + g, 50 + g), 0);
        }
        for (int g = 0; g < 3; g++) {
            Check.due("MAILS of guest " + g, host.count(g, 10), 1);
        }
        Check.due("guest 3 comes again", host.guest(1), 3);
        Check.due("it has none", host.count(3, 10), 0);
        Check.due("word 3", host.access(0, 1, Rig.POST + 3, 53), 0);
        Check.due("now it has one", host.count(3, 10), 1);
        Check.due("word 4 is no guest", host.access(0, 1, Rig.POST + 4, 54), 0);
        Check.due("its own", host.access(0, 0, Rig.POST + 4, 0), 50);
        host.vcpu(3);
        Check.due("guest 3's", host.access(1, 0, Rig.POST + 4, 0), 53);
    }

    private static void mailUpToEight() {
        Check.sentence("guest g, if it is there and has fewer than 8 MAILS, gets the word,");
        Rig rig = new Rig(1);
        NestedPager host = rig.host;
        host.guest(1);
        int other = host.vcpu(1);
        for (int i = 0; i < 7; i++) {
            rig.dueAccess("mail", Rig.WRITE, Rig.POST + 1, 10 + i, 0);
        }
        Check.due("MAILS", host.count(1, 10), 7);
        rig.dueAccess("the eighth", Rig.WRITE, Rig.POST + 1, 17, 0);
        Check.due("MAILS", host.count(1, 10), 8);
        Check.due("EVENTS", host.get(other, Rig.EVENTS), 8);
        rig.dueAccess("a ninth", Rig.WRITE, Rig.POST + 1, 18, 0);
        Check.due("does not come", host.count(1, 10), 8);
        Check.due("nor an EVENT", host.get(other, Rig.EVENTS), 8);
        Check.due("the oldest", host.access(other, 0, Rig.POST + 4, 0), 10);
        rig.dueAccess("now there is room", Rig.WRITE, Rig.POST + 1, 19, 0);
        Check.due("an EVENT", host.get(other, Rig.EVENTS), 9);
        for (int i = 1; i < 8; i++) {
            Check.due("the oldest", host.access(other, 0, Rig.POST + 4, 0), 10 + i);
        }
        Check.due("the newest", host.access(other, 0, Rig.POST + 4, 0), 19);
        Check.due("none", host.access(other, 0, Rig.POST + 4, 0), 0);
    }

    private static void mailIsAnEventForEach() {
        Check.sentence("gets the word, and each of its VCPUS an EVENT;");
        NestedPager host = new NestedPager();
        host.guest(1);
        host.guest(1);
        for (int i = 0; i < 8; i++) {
            host.vcpu(i % 2);
        }
        host.access(0, 1, Rig.POST + 1, 0);
        for (int i = 0; i < 8; i++) {
            Check.due("EVENTS of VCPU " + i, host.get(i, Rig.EVENTS), i % 2);
        }
        host.access(0, 1, Rig.POST, 65535);
        for (int i = 0; i < 8; i++) {
            Check.due("EVENTS of VCPU " + i, host.get(i, Rig.EVENTS), 1);
        }
        host.guest(1);
        host.access(0, 1, Rig.POST + 2, 1);
        Check.due("a guest without VCPUS gets it", host.count(2, 10), 1);
        Check.due("a word of 0 is a MAIL", host.count(1, 10), 1);
    }

    private static void oldestMailGoes() {
        Check.sentence("word 4 READ: its oldest MAIL, which goes (0: none); 5 READ: how many it has.");
        Rig rig = new Rig(1);
        rig.dueAccess("none", Rig.READ, Rig.POST + 4, 0, 0);
        rig.dueAccess("so many", Rig.READ, Rig.POST + 5, 0, 0);
        rig.dueAccess("mail", Rig.WRITE, Rig.POST, 65535, 0);
        rig.dueAccess("mail", Rig.WRITE, Rig.POST, 4, 0);
        rig.dueAccess("so many", Rig.READ, Rig.POST + 5, 0, 2);
        rig.dueAccess("READ takes none", Rig.READ, Rig.POST + 5, 0, 2);
        rig.dueAccess("the oldest", Rig.READ, Rig.POST + 4, 0, 65535);
        rig.dueAccess("so many", Rig.READ, Rig.POST + 5, 0, 1);
        rig.dueAccess("the oldest", Rig.READ, Rig.POST + 4, 0, 4);
        rig.dueAccess("none", Rig.READ, Rig.POST + 4, 0, 0);
        rig.dueAccess("so many", Rig.READ, Rig.POST + 5, 0, 0);
        rig.dueAccess("a WRITE takes none", Rig.WRITE, Rig.POST, 3, 0);
        rig.dueAccess("a WRITE takes none", Rig.WRITE, Rig.POST + 4, 9, 0);
        Check.due("MAILS", rig.host.count(0, 10), 1);
    }

    private static void eventsUpTo255() {
        Check.sentence("EVENTS of a VCPU are counted, up to 255.");
        Rig rig = new Rig(1);
        rig.write(0, Rig.set(0), Rig.call(5), Rig.jump(0), 0);
        rig.dueRun("254", 254 * 3, 254 * 3);
        rig.dueReg("254", Rig.EVENTS, 254);
        rig.dueRun("another by CALL 5", 3, 3);
        rig.dueReg("the most", Rig.EVENTS, 255);
        rig.dueRun("another by CALL 5", 2, 2);
        rig.dueReg("it answers 0", Rig.A, 0);
        rig.dueReg("no more", Rig.EVENTS, 255);
        rig.dueAccess("another by MAIL", Rig.WRITE, Rig.POST, 1, 0);
        rig.dueReg("no more", Rig.EVENTS, 255);
        rig.dueAccess("another by ALARM", Rig.WRITE, Rig.CLOCK + 1, 1, 0);
        rig.dueAccess("a TICK", Rig.READ, 0, 0, Rig.set(0));
        rig.dueReg("no more", Rig.EVENTS, 255);
        rig.write(0, Rig.call(6), Rig.call(6), 0, 0);
        rig.set(Rig.PC, 0);
        rig.dueRun("CALL 6", 1, 1);
        rig.dueReg("all 255", Rig.A, 255);
        rig.dueReg("none is left", Rig.EVENTS, 0);
        rig.dueRun("CALL 6", 1, 1);
        rig.dueReg("none", Rig.A, 0);
    }

    private static void tickIsEachStepTried() {
        Check.sentence("A TICK of a guest is each step tried, and each access();");
        Rig rig = new Rig(2);
        NestedPager host = rig.host;
        rig.write(0, Rig.set(1), Rig.trap(5), Rig.load(500), Rig.HALT);
        rig.set(Rig.HANDLER, 2);
        rig.dueRun("one that is done", 1, 1);
        Check.due("TICKS", host.count(0, 8), 1);
        rig.dueRun("one that the HANDLER gets", 1, 1);
        Check.due("TICKS", host.count(0, 8), 2);
        rig.dueRun("one that is an EXIT", 9, 0);
        Check.due("TICKS", host.count(0, 8), 3);
        rig.set(Rig.PC, 1);
        rig.dueRun("one that is FAULTED", 9, 0);
        Check.due("TICKS", host.count(0, 8), 4);
        rig.set(Rig.PC, 500);
        rig.dueRun("one whose FETCH is an EXIT", 9, 0);
        Check.due("TICKS", host.count(0, 8), 5);
        rig.set(Rig.BITS, 1);
        rig.dueRun("one whose FETCH is a FAULT", 9, 0);
        Check.due("TICKS", host.count(0, 8), 6);
        rig.set(Rig.BITS, 0);
        rig.set(Rig.PC, 3);
        rig.dueRun("HALT", 9, 1);
        Check.due("TICKS", host.count(0, 8), 7);
        rig.dueRun("none is tried", 9, 0);
        Check.due("TICKS", host.count(0, 8), 7);
        Check.badArgument("none is tried", () -> host.run(0, 0));
        Check.badState("none is tried", () -> host.run(1, 1));
        Check.due("TICKS", host.count(0, 8), 7);
    }

    private static void tickIsEachAccess() {
        Check.sentence("A TICK of a guest is each step tried, and each access();");
        NestedPager host = new NestedPager();
        host.guest(2);
        host.guest(2);
        host.vcpu(0);
        host.vcpu(1);
        host.access(0, 0, 0, 0);
        host.access(0, 2, 4000, 0);
        host.set(0, Rig.BITS, 1);
        host.access(0, 1, 0, 0);
        Check.due("let, EXIT and FAULT", host.count(0, 8), 3);
        Check.badArgument("wrong", () -> host.access(0, 3, 0, 0));
        Check.badArgument("wrong", () -> host.access(0, 0, 4096, 0));
        Check.badArgument("wrong", () -> host.access(0, 0, 0, 65536));
        Check.badState("wrong", () -> host.access(2, 0, 0, 0));
        host.poke(0, 0, 1, 1, 1, 1);
        host.peek(0, 0);
        host.flush(0, 0, 0);
        Check.due("nothing else is one", host.count(0, 8), 3);
        Check.due("nor for another guest", host.count(1, 8), 0);
    }

    private static void alarmGoesFirst() {
        Check.sentence("first of all in it the ALARM is one less, and if it comes to 0 that VCPU, if it is there, gets "
            + "an EVENT.");
        Rig rig = new Rig(2);
        rig.write(0, Rig.call(6), Rig.HALT);
        rig.dueAccess("1", Rig.WRITE, Rig.CLOCK + 1, 1, 0);
        rig.dueRun("the step sees the EVENT of its own TICK", 1, 1);
        rig.dueReg("A", Rig.A, 1);
        rig.dueReg("none is left", Rig.EVENTS, 0);
        rig.dueAccess("1", Rig.WRITE, Rig.CLOCK + 1, 1, 0);
        rig.dueAccess("it came before this is WRITTEN", Rig.WRITE, Rig.CLOCK + 1, 0, 0);
        rig.dueReg("an EVENT", Rig.EVENTS, 1);
        rig.dueAccess("2", Rig.WRITE, Rig.CLOCK + 1, 2, 0);
        rig.dueAccess("also in one that is an EXIT", Rig.READ, 500, 0, NestedPager.EXIT);
        rig.dueAccess("one less, and READ then", Rig.READ, Rig.CLOCK + 1, 0, 0);
        rig.dueReg("two", Rig.EVENTS, 2);
        rig.host.guest(1);
        rig.host.vcpu(1);
        rig.dueAccess("1", Rig.WRITE, Rig.CLOCK + 1, 1, 0);
        rig.host.destroy(0);
        rig.host.guest(1);
        Check.due("VCPU 0 is guest 1's now", rig.host.vcpu(1), 0);
        Check.due("VCPU 2 is guest 0's", rig.host.vcpu(0), 2);
        rig.host.access(2, 0, 0, 0);
        Check.due("the ALARM went with the guest", rig.host.get(0, Rig.EVENTS), 0);
        Check.due("none for the new one's VCPU", rig.host.get(2, Rig.EVENTS), 0);
    }
}
