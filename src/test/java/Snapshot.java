import java.util.ArrayList;
import java.util.List;

/** All that calls which change nothing tell of a host. */
final class Snapshot {
    private Snapshot() {
    }

    static List<Integer> of(NestedPager host) {
        List<Integer> seen = new ArrayList<>();
        for (int what = 0; what <= 4; what++) {
            seen.add(host.host(what));
        }
        for (int k = 0; k < 128; k++) {
            seen.add(host.dirty(k));
        }
        for (int frame = 0; frame < 128; frame++) {
            for (int i = 0; i < 16; i++) {
                seen.add(host.frame(frame, i));
            }
            for (int what = 0; what < 3; what++) {
                seen.add(host.owner(frame, what));
            }
        }
        for (int guest = 0; guest < 4; guest++) {
            addGuest(host, guest, seen);
        }
        for (int vcpu = 0; vcpu < 8; vcpu++) {
            addVcpu(host, vcpu, seen);
        }
        return seen;
    }

    private static void addGuest(NestedPager host, int guest, List<Integer> seen) {
        try {
            for (int what = 0; what < 12; what++) {
                seen.add(host.count(guest, what));
            }
        } catch (IllegalStateException e) {
            seen.add(Integer.MIN_VALUE);
            return;
        }
        for (int address = 0; address < 2048; address++) {
            seen.add(host.peek(guest, address));
        }
        for (int page = 0; page < 128; page++) {
            seen.add(host.entry(guest, page));
        }
        for (int k = 0; k < 200; k++) {
            seen.add(host.printed(guest, k));
        }
    }

    private static void addVcpu(NestedPager host, int vcpu, List<Integer> seen) {
        try {
            for (int what = 0; what < 19; what++) {
                seen.add(host.get(vcpu, what));
            }
        } catch (IllegalStateException e) {
            seen.add(Integer.MIN_VALUE);
            return;
        }
        for (int what = 0; what < 5; what++) {
            seen.add(host.exit(vcpu, what));
        }
        for (int i = 0; i < 8; i++) {
            for (int what = 0; what < 4; what++) {
                seen.add(host.aside(vcpu, i, what));
            }
        }
    }
}
