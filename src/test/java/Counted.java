/** An object that counts its calls: what it answers behind the 512th is free, so no test may look at that. */
final class Counted {

    static final int MOST_CALLS = 512;

    private final CodePointSets sets = new CodePointSets();
    private int calls;

    int callsLeft() {
        return MOST_CALLS - calls;
    }

    private CodePointSets call() {
        calls++;
        if (calls > MOST_CALLS) {
            throw new IllegalStateException("the test makes more than 512 calls on one object");
        }
        return sets;
    }

    boolean type(int c) {
        return call().type(c);
    }

    void wipe() {
        call().wipe();
    }

    int length() {
        return call().length();
    }

    int at(int k) {
        return call().at(k);
    }

    boolean apply(int r) {
        return call().apply(r);
    }

    int print(int r) {
        return call().print(r);
    }

    boolean combine(int r, int s, int how) {
        return call().combine(r, s, how);
    }

    boolean turn(int r) {
        return call().turn(r);
    }

    int close(int r) {
        return call().close(r);
    }

    boolean contains(int r, int c) {
        return call().contains(r, c);
    }

    boolean has(int r) {
        return call().has(r);
    }

    boolean includes(int r, int s) {
        return call().includes(r, s);
    }

    int size(int r) {
        return call().size(r);
    }

    int strings(int r) {
        return call().strings(r);
    }

    int edge(int r, int k) {
        return call().edge(r, k);
    }

    int nth(int r, int i) {
        return call().nth(r, i);
    }

    int span(int r, int from, boolean in) {
        return call().span(r, from, in);
    }
}
