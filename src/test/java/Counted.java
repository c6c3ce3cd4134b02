/**
 * A PaperRings that counts its calls: what it answers behind the 512th is free, so no test may ask for it.
 * It has every method of the document's face under its own name.
 */
final class Counted {
    static final int MOST_CALLS = 512;

    private final PaperRings rings = new PaperRings();
    private int calls = 0;

    private PaperRings next() {
        calls++;
        if (calls > MOST_CALLS) {
            throw new IllegalStateException("a test makes more than " + MOST_CALLS + " calls on one object");
        }
        return rings;
    }

    int calls() {
        return calls;
    }

    /** Eight bytes a call: how long the text is at the end, or the first refusal. */
    int writeAll(String text) {
        int answer = 0;
        for (int at = 0; at < text.length() && answer >= 0; at += 8) {
            int n = Math.min(8, text.length() - at);
            long v = 0;
            for (int i = 0; i < n; i++) {
                v = v << 8 | text.charAt(at + i);
            }
            answer = write(n, v);
        }
        return answer;
    }

    /** Lays a text in place of the one that is there. */
    int layOther(String text) {
        wipe();
        writeAll(text);
        return lay();
    }

    int person(int person, int set, int age) {
        return next().person(person, set, age);
    }

    int write(int n, long v) {
        return next().write(n, v);
    }

    int wipe() {
        return next().wipe();
    }

    int fault() {
        return next().fault();
    }

    int lay() {
        return next().lay();
    }

    int office(int paper, int what) {
        return next().office(paper, what);
    }

    int may(int person, int set, int paper) {
        return next().may(person, set, paper);
    }

    int lack(int person, int set, int paper) {
        return next().lack(person, set, paper);
    }

    int reach(int person) {
        return next().reach(person);
    }

    int round(int person, int paper) {
        return next().round(person, paper);
    }

    int ring(int person, int i) {
        return next().ring(person, i);
    }

    int back(int person) {
        return next().back(person);
    }

    int opened(int person, int paper, int what) {
        return next().opened(person, paper, what);
    }

    int cheapest(int person, int paper, int what) {
        return next().cheapest(person, paper, what);
    }

    int soonest(int person, int paper) {
        return next().soonest(person, paper);
    }

    int plan(int person, int paper) {
        return next().plan(person, paper);
    }

    int noPlan(int person) {
        return next().noPlan(person);
    }

    int judge(int person, int what) {
        return next().judge(person, what);
    }

    int mend(int persons, int paper, int i) {
        return next().mend(persons, paper, i);
    }

    int queue(int persons, int person) {
        return next().queue(persons, person);
    }

    int keep() {
        return next().keep();
    }

    int restore() {
        return next().restore();
    }

    int count(int what) {
        return next().count(what);
    }
}
