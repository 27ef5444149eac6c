/** The checksum of promise 30, put together from what the night answers to its other questions. */
final class Digest {
    private long d = 58227;

    private Digest() {
    }

    static long of(Kelirnight night) {
        Digest sum = new Digest();
        for (int what = 0; what <= 15; what++) {
            sum.add(night.many(what));
        }
        for (int k = 0; k < night.many(1); k++) {
            sum.add(night.knows(k, night.many(3) - 1) ? 1 : 0);
        }
        for (int k = 0; k < night.many(2); k++) {
            for (int what = 0; what <= 7; what++) {
                sum.add(night.ofFigure(k, what));
            }
            sum.add(night.liftFor(k, 60));
        }
        for (int k = 0; k < night.many(3); k++) {
            for (int what = 0; what <= 8; what++) {
                sum.add(night.ofScene(k, what));
            }
        }
        for (int place = 0; place <= 9; place++) {
            sum.add(night.at(place));
        }
        for (int what = 0; what <= 3; what++) {
            sum.add(night.sound(what));
        }
        sum.add(night.nextGong());
        sum.add(night.bestSwap());
        sum.add(night.gripable());
        return sum.d;
    }

    private void add(long v) {
        d = d * 31 + v;
    }
}
