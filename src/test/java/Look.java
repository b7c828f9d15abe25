import java.util.ArrayList;
import java.util.List;

/**
 * All that calls can tell of a net, by some 400 of them, which use the net up: two nets that differ in anything that
 * the document names look unlike.
 */
final class Look {
    private final OneNet net;
    private final List<Long> seen = new ArrayList<>();

    private Look(OneNet net) {
        this.net = net;
    }

    static List<Long> at(OneNet net) {
        Look look = new Look(net);
        look.lookAtNet();
        look.lookAtSleepers(6);
        look.lookAtTape();
        look.lookAtImage();
        for (int s = 0; s < 4; s++) {
            look.lookAtSheet(s);
        }
        return look.seen;
    }

    private long see(long answer) {
        seen.add(answer);
        return answer;
    }

    private void lookAtNet() {
        for (int what = 0; what < 6; what++) {
            see(net.count(what));
        }
        for (int k = 0; k < 20; k++) {
            see(net.corded(k, k + 1));
            see(net.corded(k, k + 5));
        }
        see(net.hang(0));
        see(net.hang(2));
        see(net.hang(3));
        for (int part = 0; part < 3; part++) {
            see(net.asks(part, 57, 2, 31, 42));
        }
    }

    private void lookAtSleepers(int size) {
        for (int s = 0; s < size; s++) {
            for (int what = 0; what < 4; what++) {
                see(net.told(s, what));
            }
        }
        see(net.night());
    }

    private void lookAtTape() {
        see(net.text());
        see(net.force(net.count(3) - 1));
        for (int part = 0; part < 3; part++) {
            see(net.asks(part, 57, 2, 31, 42));
        }
    }

    private void lookAtImage() {
        see(net.back());
        lookAtNet();
        net.image();
    }

    private void lookAtSheet(int s) {
        int sort = 0;
        while (sort < 3 && net.sleepersBy(s, sort, 0, 0) != 0) {
            sort++;
        }
        see(sort);
        int size = 0;
        while (size < 40 && net.copy(s, 0, s, 0, size + 1) >= 0) {
            size++;
        }
        see(size);
        for (int from = 0; from + 3 <= size; from += 18) {
            readSleepers(s, sort, from, Math.min(6, (size - from) / 3));
        }
        int rest = size % 3;
        if (size > 3 && rest > 0) {
            net.copy(s, size - rest, s, 0, rest);
            readSleepers(s, sort, 0, 1);
        }
    }

    private void readSleepers(int s, int sort, int from, int n) {
        int came = (int) see(net.sleepersBy(s, sort, from, n));
        lookAtSleepers(came);
        net.back();
    }
}
