import java.util.ArrayList;
import java.util.List;

/** The checksum of promise 30, put together from what the night answers to its other questions. */
final class Digest {
    private Digest() {
    }

    static long of(Kelirnight night) {
        long d = 58227;
        for (long v : numbersOf(night)) {
            d = d * 31 + v;
        }
        return d;
    }

    /** The numbers that go into the checksum, in their order. */
    static List<Long> numbersOf(Kelirnight night) {
        List<Long> numbers = new ArrayList<>();
        for (int what = 0; what <= 15; what++) {
            numbers.add((long) night.many(what));
        }
        for (int k = 0; k < night.many(1); k++) {
            numbers.add(night.knows(k, night.many(3) - 1) ? 1L : 0L);
        }
        for (int k = 0; k < night.many(2); k++) {
            for (int what = 0; what <= 7; what++) {
                numbers.add((long) night.ofFigure(k, what));
            }
            numbers.add((long) night.liftFor(k, 60));
        }
        for (int k = 0; k < night.many(3); k++) {
            for (int what = 0; what <= 8; what++) {
                numbers.add((long) night.ofScene(k, what));
            }
        }
        for (int place = 0; place <= 9; place++) {
            numbers.add((long) night.at(place));
        }
        for (int what = 0; what <= 3; what++) {
            numbers.add((long) night.sound(what));
        }
        numbers.add((long) night.nextGong());
        numbers.add((long) night.bestSwap());
        numbers.add((long) night.gripable());
        return numbers;
    }
}
