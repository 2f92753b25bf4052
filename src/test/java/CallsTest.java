/** Promises 1 to 16: what each call does at once, its edges, and wrong inputs. */
final class CallsTest {
    private static final Check CHECK = new Check();
    private static final int[] OUT = {Integer.MIN_VALUE, -1, Integer.MAX_VALUE};

    public static void main(String[] args) {
        promise1NewObject();
        promise2Host();
        promise2Most();
        promise3Offer();
        promise3Most();
        refusals();
        promise4Lie();
        promise5Drop();
        promise6Change();
        promise7Ask();
        promise8Sleep();
        promise9Wake();
        promise10Fall();
        promise11Leave();
        promise12Keeper();
        promise13Bridge();
        promise13WhatForbidsIt();
        promise13AnswersAreGone();
        promise14Lose();
        promise15Deaf();
        promise16Join();
        CHECK.end("CallsTest");
    }

    private static void promise1NewObject() {
        WhoIsThere x = new WhoIsThere();
        for (int what = 0; what <= 10; what++) {
            CHECK.due("1: count(" + what + ")", x.count(what), 0);
        }
        CHECK.due("1: look(0, 0)", x.look(0, 0), -1);
        CHECK.due("1: service(0, 0)", x.service(0, 0), -1);
        CHECK.due("1: record(0, 0, 0)", x.record(0, 0, 0), -1);
        CHECK.due("1: find(0, 0, 0, 0)", x.find(0, 0, 0, 0), -1);
        CHECK.due("1: reach(0, 0)", x.reach(0, 0), -1);
        CHECK.due("1: drop(0)", x.drop(0), false);
        CHECK.due("1: tick(1)", x.tick(1), 1);
    }

    private static void promise2Host() {
        WhoIsThere x = new WhoIsThere();
        CHECK.due("2: net -1", x.host(-1, 1, 2, 0), -1);
        CHECK.due("2: net 4", x.host(4, 1, 2, 0), -1);
        CHECK.due("2: from 0", x.host(0, 0, 2, 0), -1);
        CHECK.due("2: to 251", x.host(0, 1, 251, 0), -1);
        CHECK.due("2: from above to", x.host(0, 3, 2, 0), -1);
        CHECK.due("2: rank -1", x.host(0, 1, 2, -1), -1);
        CHECK.due("2: rank 1001", x.host(0, 1, 2, 1001), -1);
        for (int out : OUT) {
            CHECK.due("2: net out", x.host(out, 1, 2, 0), -1);
            CHECK.due("2: from out", x.host(0, out, 2, 0), -1);
            CHECK.due("2: to out", x.host(0, 1, out, 0), -1);
            CHECK.due("2: rank out", x.host(0, 1, 2, out), -1);
        }
        CHECK.due("2: none yet", x.count(1), 0);
        CHECK.due("2: all names", x.host(0, 1, 250, 0), 0);
        CHECK.due("2: one name", x.host(3, 250, 250, 1000), 1);
        CHECK.due("2: awake", x.look(1, 0), 2);
        CHECK.due("2: home", x.look(1, 1), 3);
        CHECK.due("2: no second net", x.look(1, 2), -1);
        CHECK.due("2: two", x.count(1), 2);
    }

    private static void promise2Most() {
        WhoIsThere x = new WhoIsThere();
        for (int h = 0; h < 12; h++) {
            CHECK.due("2: host " + h, x.host(h % 4, 1, 2, 0), h);
        }
        CHECK.due("2: a 13th", x.host(0, 1, 2, 0), -1);
        x.fall(3);
        CHECK.due("2: a 13th, one being gone", x.host(0, 1, 2, 0), -1);
        CHECK.due("21: the last one", x.look(11, 0), 2);
        CHECK.due("21: beyond it", x.look(12, 0), -1);
        CHECK.due("9: beyond it", x.wake(12), false);
        CHECK.due("2: count", x.count(1), 12);
    }

    private static void promise3Offer() {
        WhoIsThere x = new WhoIsThere();
        x.host(0, 10, 20, 5);
        CHECK.due("3: host 1", x.offer(1, 0, 10, 0, 4), -1);
        CHECK.due("3: kind -1", x.offer(0, -1, 10, 0, 4), -1);
        CHECK.due("3: kind 16", x.offer(0, 16, 10, 0, 4), -1);
        CHECK.due("3: name 9", x.offer(0, 0, 9, 0, 4), -1);
        CHECK.due("3: name 21", x.offer(0, 0, 21, 0, 4), -1);
        CHECK.due("3: marks -1", x.offer(0, 0, 10, -1, 4), -1);
        CHECK.due("3: marks 256", x.offer(0, 0, 10, 256, 4), -1);
        CHECK.due("3: life 3", x.offer(0, 0, 10, 0, 3), -1);
        CHECK.due("3: life 201", x.offer(0, 0, 10, 0, 201), -1);
        for (int out : OUT) {
            CHECK.due("3: host out", x.offer(out, 0, 10, 0, 4), -1);
            CHECK.due("3: kind out", x.offer(0, out, 10, 0, 4), -1);
            CHECK.due("3: name out", x.offer(0, 0, out, 0, 4), -1);
            CHECK.due("3: marks out", x.offer(0, 0, 10, out, 4), -1);
            CHECK.due("3: life out", x.offer(0, 0, 10, 0, out), -1);
        }
        CHECK.due("3: least", x.offer(0, 0, 10, 0, 4), 0);
        CHECK.due("3: greatest", x.offer(0, 15, 20, 255, 200), 1);
        CHECK.due("3: name had", x.offer(0, 1, 20, 0, 4), -1);
        CHECK.due("3: claiming", x.service(1, 0), 1);
        CHECK.due("3: claims", x.service(1, 2), 3);
        CHECK.due("3: marks", x.service(1, 3), 255);
        CHECK.due("3: no renewal", x.service(1, 5), -1);
        CHECK.due("3: third", x.offer(0, 0, 11, 0, 4), 2);
        CHECK.due("3: fourth", x.offer(0, 0, 12, 0, 4), 3);
        CHECK.due("3: fifth", x.offer(0, 0, 13, 0, 4), -1);
        x.drop(1);
        CHECK.due("3: the name of a gone one", x.offer(0, 0, 20, 0, 4), 4);
        CHECK.due("3: gone ones count", x.count(2), 5);
    }

    private static void promise3Most() {
        WhoIsThere x = new WhoIsThere();
        x.host(0, 1, 250, 5);
        for (int s = 0; s < 32; s++) {
            CHECK.due("3: service " + s, x.offer(0, 0, 1, 0, 4), s);
            x.drop(s);
        }
        CHECK.due("3: a 33rd", x.offer(0, 0, 1, 0, 4), -1);
        CHECK.due("4: a 33rd", x.lie(0, 0, 1, 0, 4), -1);
        CHECK.due("3: count", x.count(2), 32);
        CHECK.due("20: the last one", x.service(31, 1), 1);
        CHECK.due("20: beyond it", x.service(32, 1), -1);
        CHECK.due("19: beyond it", x.record(0, 32, 0), -1);
        CHECK.due("22: beyond it", x.reach(0, 32), -1);
        CHECK.due("5: beyond it", x.drop(32), false);
        CHECK.due("6: beyond it", x.change(32, 0), false);
    }

    /** What a host refuses that is asleep, leaves, or is gone. */
    private static void refusals() {
        for (int way = 0; way < 3; way++) {
            WhoIsThere x = new WhoIsThere();
            x.host(0, 1, 9, 5);
            x.host(0, 1, 9, 5);
            if (way == 0) {
                x.sleep(0, 1);
            } else if (way == 1) {
                x.leave(0);
            } else {
                x.fall(0);
            }
            refusalsOfHost0(x);
        }
    }

    private static void refusalsOfHost0(WhoIsThere x) {
        CHECK.due("3: not staying", x.offer(0, 0, 1, 0, 4), -1);
        CHECK.due("4: not staying", x.lie(0, 0, 1, 0, 4), -1);
        CHECK.due("7: not staying", x.ask(0, 0, 0), false);
        CHECK.due("8: not staying", x.sleep(0, 1), false);
        CHECK.due("8: proxy not staying", x.sleep(1, 0), false);
        CHECK.due("11: not staying", x.leave(0), false);
        CHECK.due("12: not staying", x.keeper(0, true), false);
        CHECK.due("13: not staying", x.bridge(0, 1, 1), false);
    }

    private static void promise4Lie() {
        WhoIsThere x = new WhoIsThere();
        x.host(0, 10, 20, 5);
        x.tick(7);
        CHECK.due("4: name 0", x.lie(0, 0, 0, 0, 4), -1);
        CHECK.due("4: name 251", x.lie(0, 0, 251, 0, 4), -1);
        CHECK.due("4: kind 16", x.lie(0, 16, 1, 0, 4), -1);
        CHECK.due("4: marks 256", x.lie(0, 0, 1, 256, 4), -1);
        CHECK.due("4: life 3", x.lie(0, 0, 1, 0, 3), -1);
        CHECK.due("4: life 201", x.lie(0, 0, 1, 0, 201), -1);
        CHECK.due("4: host 1", x.lie(1, 0, 1, 0, 4), -1);
        CHECK.due("4: a name of others", x.lie(0, 0, 250, 3, 4), 0);
        CHECK.due("4: a name of its own", x.lie(0, 0, 10, 3, 4), 1);
        CHECK.due("4: name had", x.lie(0, 0, 250, 0, 4), -1);
        CHECK.due("3: name had by a false one", x.offer(0, 0, 10, 0, 4), -1);
        CHECK.due("4: held", x.service(0, 0), 2);
        CHECK.due("4: renewal now", x.service(0, 5), 7);
        CHECK.due("4: no claims", x.service(0, 2), 0);
        x.lie(0, 0, 2, 0, 4);
        x.offer(0, 0, 11, 0, 4);
        CHECK.due("4: fifth", x.lie(0, 0, 3, 0, 4), -1);
        for (int out : OUT) {
            CHECK.due("4: name out", x.lie(0, 0, out, 0, 4), -1);
        }
    }

    private static void promise5Drop() {
        WhoIsThere x = new WhoIsThere();
        x.host(0, 1, 9, 5);
        x.host(0, 1, 9, 5);
        x.offer(0, 0, 1, 0, 4);
        x.lie(0, 0, 2, 0, 4);
        x.lie(1, 0, 3, 0, 4);
        for (int out : OUT) {
            CHECK.due("5: out", x.drop(out), false);
        }
        CHECK.due("5: none such", x.drop(3), false);
        CHECK.due("5: claiming", x.drop(0), true);
        CHECK.due("5: gone", x.service(0, 0), 0);
        CHECK.due("5: no bye", x.service(0, 6), 0);
        CHECK.due("5: again", x.drop(0), false);
        CHECK.due("5: held", x.drop(1), true);
        CHECK.due("5: bye", x.service(1, 6), 1);
        CHECK.due("5: no renewal", x.service(1, 5), -1);
        x.sleep(1, 0);
        CHECK.due("5: asleep", x.drop(2), false);
        x.wake(1);
        CHECK.due("5: awake again", x.drop(2), true);
        x.tick(1);
        CHECK.due("5: the byes are written", x.count(9), 2);
        x.tick(1);
        CHECK.due("5: once", x.count(9), 0);
    }

    private static void promise6Change() {
        WhoIsThere x = new WhoIsThere();
        x.host(0, 1, 9, 5);
        x.host(0, 1, 9, 5);
        x.offer(0, 0, 1, 3, 20);
        x.lie(0, 0, 2, 3, 20);
        x.tick(1);
        CHECK.due("6: renewal later", x.service(1, 5), 10);
        CHECK.due("6: claiming", x.change(0, 255), true);
        CHECK.due("6: marks", x.service(0, 3), 255);
        CHECK.due("6: no renewal", x.service(0, 5), -1);
        CHECK.due("6: held", x.change(1, 0), true);
        CHECK.due("6: marks of held", x.service(1, 3), 0);
        CHECK.due("6: renewal now", x.service(1, 5), 1);
        CHECK.due("6: marks -1", x.change(1, -1), false);
        CHECK.due("6: marks 256", x.change(1, 256), false);
        CHECK.due("6: unchanged", x.service(1, 3), 0);
        CHECK.due("6: none such", x.change(2, 0), false);
        CHECK.due("6: none such", x.change(-1, 0), false);
        x.sleep(0, 1);
        CHECK.due("6: asleep", x.change(1, 1), false);
        x.wake(0);
        x.drop(1);
        CHECK.due("6: gone", x.change(1, 1), false);
    }

    private static void promise7Ask() {
        WhoIsThere x = new WhoIsThere();
        x.host(0, 1, 9, 5);
        x.host(0, 1, 9, 5);
        CHECK.due("7: kind -1", x.ask(0, -1, 0), false);
        CHECK.due("7: kind 16", x.ask(0, 16, 0), false);
        CHECK.due("7: marks -1", x.ask(0, 0, -1), false);
        CHECK.due("7: marks 256", x.ask(0, 0, 256), false);
        CHECK.due("7: host 2", x.ask(2, 0, 0), false);
        for (int out : OUT) {
            CHECK.due("7: host out", x.ask(out, 0, 0), false);
            CHECK.due("7: kind out", x.ask(0, out, 0), false);
            CHECK.due("7: marks out", x.ask(0, 0, out), false);
        }
        CHECK.due("7: first", x.ask(1, 0, 0), true);
        CHECK.due("7: last kind", x.ask(1, 15, 255), true);
        CHECK.due("7: waits", x.ask(1, 15, 0), false);
        CHECK.due("7: two wait", x.look(1, 7), 2);
        x.tick(1);
        CHECK.due("7: lot of host 1 at tick 0 is 1", x.look(1, 4), 0);
        x.tick(1);
        CHECK.due("7: both in one letter", x.look(1, 4), 1);
        CHECK.due("7: none waits", x.look(1, 7), 0);
        for (int h = 0; h < 2; h++) {
            for (int tick = 2; tick < 10; tick++) {
                askWaitsByLot(h, tick);
            }
        }
    }

    private static void askWaitsByLot(int host, int tick) {
        WhoIsThere x = new WhoIsThere();
        x.host(0, 1, 9, 5);
        x.host(0, 1, 9, 5);
        x.tick(tick);
        x.ask(host, 3, 0);
        int lot = (5 * host + 3 * tick) % 4;
        for (int i = 0; i < lot; i++) {
            x.tick(1);
            CHECK.due("7: still waits", x.look(host, 7), 1);
        }
        x.tick(1);
        CHECK.due("7: written by lot", x.look(host, 7), 0);
        CHECK.due("7: one letter", x.count(3), 1);
    }

    private static void promise8Sleep() {
        WhoIsThere x = new WhoIsThere();
        x.host(0, 1, 9, 5);
        x.host(0, 1, 9, 5);
        x.host(1, 1, 9, 5);
        x.host(0, 1, 9, 5);
        x.bridge(3, 1, 0);
        CHECK.due("8: itself", x.sleep(0, 0), false);
        CHECK.due("8: another net", x.sleep(0, 2), false);
        CHECK.due("8: a bridge for proxy", x.sleep(0, 3), false);
        CHECK.due("8: a bridge", x.sleep(3, 0), false);
        for (int out : OUT) {
            CHECK.due("8: host out", x.sleep(out, 0), false);
            CHECK.due("8: proxy out", x.sleep(0, out), false);
        }
        x.keeper(0, true);
        CHECK.due("8: a keeper", x.sleep(0, 1), false);
        x.ask(1, 2, 0);
        CHECK.due("8: a keeper for proxy", x.sleep(1, 0), true);
        CHECK.due("8: asleep", x.look(1, 0), 1);
        CHECK.due("8: proxy", x.look(1, 3), 0);
        x.tick(3);
        CHECK.due("8: its ask stays", x.look(1, 7), 1);
        x.wake(1);
        x.tick(1);
        CHECK.due("8: and is written", x.look(1, 7), 0);
    }

    private static void promise9Wake() {
        WhoIsThere x = new WhoIsThere();
        x.host(0, 1, 9, 5);
        x.host(0, 1, 9, 5);
        CHECK.due("9: awake", x.wake(0), false);
        x.sleep(0, 1);
        CHECK.due("9: asleep", x.wake(0), true);
        CHECK.due("9: awake now", x.look(0, 0), 2);
        CHECK.due("9: no proxy", x.look(0, 3), -1);
        CHECK.due("9: not woken by letters", x.count(8), 0);
        x.leave(0);
        CHECK.due("9: leaving", x.wake(0), false);
        x.fall(0);
        CHECK.due("9: gone", x.wake(0), false);
        CHECK.due("9: none such", x.wake(2), false);
        for (int out : OUT) {
            CHECK.due("9: out", x.wake(out), false);
        }
    }

    private static void promise10Fall() {
        WhoIsThere x = new WhoIsThere();
        x.host(0, 1, 9, 5);
        x.host(0, 1, 9, 5);
        x.lie(0, 0, 1, 0, 20);
        x.lie(0, 0, 2, 0, 20);
        x.lie(1, 0, 3, 0, 20);
        x.tick(1);
        x.ask(0, 4, 0);
        x.keeper(0, true);
        x.drop(1);
        CHECK.due("10: bye", x.service(1, 6), 1);
        CHECK.due("10: record", x.look(0, 5), 1);
        for (int out : OUT) {
            CHECK.due("10: out", x.fall(out), false);
        }
        CHECK.due("10: none such", x.fall(2), false);
        CHECK.due("10: falls", x.fall(0), true);
        CHECK.due("10: gone", x.look(0, 0), 0);
        CHECK.due("10: no records", x.look(0, 5), 0);
        CHECK.due("10: no keeper", x.look(0, 6), 0);
        CHECK.due("10: no asks", x.look(0, 7), 0);
        CHECK.due("10: no answers", x.look(0, 8), 0);
        CHECK.due("10: service gone", x.service(0, 0), 0);
        CHECK.due("10: no bye", x.service(0, 6), 0);
        CHECK.due("10: no bye any more", x.service(1, 6), 0);
        CHECK.due("10: again", x.fall(0), false);
        x.tick(1);
        CHECK.due("10: without a word", x.count(9), 0);
        CHECK.due("10: still believed", x.record(1, 0, 2), 19);
        CHECK.due("10: those of others stay", x.service(2, 0), 2);
        fallsAsleepOrLeaving();
        answersFallToo();
    }

    private static void answersFallToo() {
        WhoIsThere x = new WhoIsThere();
        x.host(0, 1, 9, 5);
        x.deaf(x.host(0, 1, 9, 5), 1);
        x.lie(0, 3, 1, 0, 40);
        x.ask(1, 3, 0);
        x.tick(2);
        CHECK.due("10: an answer waits", x.look(0, 8), 1);
        x.fall(0);
        CHECK.due("10: and is gone", x.look(0, 8), 0);
    }

    private static void fallsAsleepOrLeaving() {
        WhoIsThere x = new WhoIsThere();
        x.host(0, 1, 9, 5);
        x.host(0, 1, 9, 5);
        x.host(0, 1, 9, 5);
        x.lie(2, 0, 1, 0, 20);
        x.sleep(0, 1);
        CHECK.due("10: asleep", x.fall(0), true);
        x.leave(2);
        CHECK.due("10: leaving", x.fall(2), true);
        CHECK.due("10: leaving, gone", x.look(2, 0), 0);
        CHECK.due("10: leaving, no bye", x.service(0, 6), 0);
        x.tick(1);
        CHECK.due("10: leaving, no letter", x.count(3), 0);
    }

    private static void promise11Leave() {
        WhoIsThere x = new WhoIsThere();
        x.host(0, 1, 9, 5);
        x.host(0, 1, 9, 5);
        x.host(0, 1, 9, 5);
        x.lie(0, 0, 1, 0, 20);
        x.offer(0, 0, 2, 0, 20);
        x.lie(1, 1, 3, 0, 20);
        x.tick(1);
        x.sleep(1, 0);
        x.sleep(2, 0);
        x.ask(0, 5, 0);
        for (int out : OUT) {
            CHECK.due("11: out", x.leave(out), false);
        }
        CHECK.due("11: none such", x.leave(3), false);
        CHECK.due("11: asleep", x.leave(1), false);
        CHECK.due("11: leaves", x.leave(0), true);
        CHECK.due("11: again", x.leave(0), false);
        CHECK.due("11: leaving", x.look(0, 0), 3);
        CHECK.due("11: held one gone", x.service(0, 0), 0);
        CHECK.due("11: with a bye", x.service(0, 6), 1);
        CHECK.due("11: claiming one gone", x.service(1, 0), 0);
        CHECK.due("11: without a bye", x.service(1, 6), 0);
        CHECK.due("11: sleeper awake", x.look(1, 0), 2);
        CHECK.due("11: both woken", x.count(8), 2);
        CHECK.due("11: records till then", x.look(0, 5), 1);
        CHECK.due("22: it may still reach", x.reach(0, 2), 1);
        CHECK.due("5: of a leaving one", x.drop(0), false);
        x.tick(1);
        CHECK.due("11: one letter", x.look(0, 4), 2);
        CHECK.due("11: gone", x.look(0, 0), 0);
        CHECK.due("11: no records", x.look(0, 5), 0);
        CHECK.due("11: no asks", x.look(0, 7), 0);
        CHECK.due("11: bye heard", x.record(1, 0, 0), -1);
        CHECK.due("11: gone, again", x.leave(0), false);
        leavesWithoutAWord();
    }

    private static void leavesWithoutAWord() {
        WhoIsThere x = new WhoIsThere();
        x.host(0, 1, 9, 5);
        x.host(0, 1, 9, 5);
        x.offer(0, 0, 1, 0, 20);
        x.ask(0, 0, 0);
        x.keeper(0, true);
        x.leave(0);
        CHECK.due("11: keeper till then", x.look(0, 6), 1);
        CHECK.due("11: ask till then", x.look(0, 7), 1);
        x.tick(1);
        CHECK.due("11: nothing but byes is written", x.count(3), 0);
        CHECK.due("11: gone all the same", x.look(0, 0), 0);
        CHECK.due("11: no keeper", x.look(0, 6), 0);
    }

    private static void promise12Keeper() {
        WhoIsThere x = new WhoIsThere();
        x.host(0, 1, 9, 5);
        x.host(0, 1, 9, 5);
        x.bridge(1, 1, 0);
        CHECK.due("12: none before", x.keeper(0, false), false);
        CHECK.due("12: keeper", x.keeper(0, true), true);
        CHECK.due("12: seen", x.look(0, 6), 1);
        CHECK.due("12: again", x.keeper(0, true), false);
        CHECK.due("12: no more", x.keeper(0, false), true);
        CHECK.due("12: seen no more", x.look(0, 6), 0);
        CHECK.due("12: a bridge", x.keeper(1, true), false);
        CHECK.due("12: none such", x.keeper(2, true), false);
        for (int out : OUT) {
            CHECK.due("12: out", x.keeper(out, true), false);
        }
        x.fall(0);
        CHECK.due("12: gone", x.keeper(0, true), false);
    }

    private static void promise13Bridge() {
        WhoIsThere x = new WhoIsThere();
        x.host(0, 1, 9, 5);
        x.host(0, 1, 9, 5);
        x.lie(0, 0, 1, 0, 20);
        x.tick(1);
        CHECK.due("13: a record", x.look(1, 5), 1);
        CHECK.due("13: home", x.bridge(1, 0, 1), false);
        CHECK.due("13: net 4", x.bridge(1, 4, 1), false);
        CHECK.due("13: net -1", x.bridge(1, -1, 1), false);
        CHECK.due("13: kinds -1", x.bridge(1, 3, -1), false);
        CHECK.due("13: kinds 65536", x.bridge(1, 3, 65536), false);
        CHECK.due("13: none such", x.bridge(2, 3, 0), false);
        for (int out : OUT) {
            CHECK.due("13: host out", x.bridge(out, 3, 0), false);
            CHECK.due("13: net out", x.bridge(1, out, 0), false);
            CHECK.due("13: kinds out", x.bridge(1, 3, out), false);
        }
        CHECK.due("13: not yet", x.look(1, 2), -1);
        CHECK.due("13: bridge", x.bridge(1, 3, 65535), true);
        CHECK.due("13: second net", x.look(1, 2), 3);
        CHECK.due("13: home net", x.look(1, 1), 0);
        CHECK.due("13: store empty", x.look(1, 5), 0);
        CHECK.due("13: again", x.bridge(1, 2, 1), false);
        CHECK.due("13: no asks", x.ask(1, 0, 0), false);
        CHECK.due("13: no services", x.offer(1, 0, 2, 0, 4), -1);
        CHECK.due("13: no lies", x.lie(1, 0, 2, 0, 4), -1);
        x.change(0, 1);
        x.tick(1);
        CHECK.due("13: no store", x.look(1, 5), 0);
        x.fall(1);
        CHECK.due("13: second net of a gone one", x.look(1, 2), 3);
    }

    private static void promise13WhatForbidsIt() {
        WhoIsThere x = new WhoIsThere();
        for (int h = 0; h < 6; h++) {
            x.host(0, 1, 9, 5);
        }
        x.keeper(0, true);
        CHECK.due("13: a keeper", x.bridge(0, 1, 1), false);
        x.offer(1, 0, 1, 0, 4);
        x.drop(0);
        CHECK.due("13: has had services", x.bridge(1, 1, 1), false);
        x.ask(2, 0, 0);
        CHECK.due("13: has an ask", x.bridge(2, 1, 1), false);
        x.tick(4);
        CHECK.due("13: had an ask", x.bridge(2, 1, 1), true);
        x.sleep(4, 3);
        CHECK.due("13: a proxy", x.bridge(3, 1, 1), false);
        CHECK.due("13: asleep", x.bridge(4, 1, 1), false);
        x.wake(4);
        CHECK.due("13: was a proxy", x.bridge(3, 1, 1), true);
        CHECK.due("13: no kinds", x.bridge(4, 1, 0), true);
        x.fall(5);
        CHECK.due("13: gone", x.bridge(5, 1, 1), false);
    }

    private static void promise13AnswersAreGone() {
        WhoIsThere x = new WhoIsThere();
        x.host(0, 1, 9, 5);
        x.host(0, 1, 9, 5);
        x.deaf(x.host(0, 1, 9, 5), 1);
        x.lie(0, 3, 1, 0, 40);
        x.tick(1);
        x.keeper(1, true);
        x.ask(2, 3, 0);
        x.tick(2);
        CHECK.due("13: a keeper's answer waits", x.look(1, 8), 1);
        x.keeper(1, false);
        CHECK.due("13: no keeper any more", x.bridge(1, 1, 1), true);
        CHECK.due("13: no answer", x.look(1, 8), 0);
    }

    private static void promise14Lose() {
        WhoIsThere x = new WhoIsThere();
        x.host(0, 1, 9, 5);
        x.host(0, 1, 9, 5);
        CHECK.due("14: -1", x.lose(0, -1), false);
        CHECK.due("14: 101", x.lose(0, 101), false);
        CHECK.due("14: none such", x.lose(2, 1), false);
        for (int out : OUT) {
            CHECK.due("14: host out", x.lose(out, 1), false);
            CHECK.due("14: n out", x.lose(0, out), false);
        }
        CHECK.due("14: 100", x.lose(0, 100), true);
        CHECK.due("14: 2 instead", x.lose(0, 2), true);
        x.offer(0, 0, 1, 0, 20);
        x.tick(3);
        CHECK.due("14: two of three", x.count(4), 2);
        CHECK.due("14: written all the same", x.count(3), 3);
        CHECK.due("14: claims too", x.service(0, 2), 0);
        x.lose(0, 1);
        CHECK.due("14: 0", x.lose(0, 0), true);
        x.tick(1);
        CHECK.due("14: none lost", x.record(1, 0, 2), 20);
        x.leave(0);
        x.lose(0, 1);
        x.tick(1);
        CHECK.due("14: a bye lost", x.record(1, 0, 2), 19);
        CHECK.due("14: a gone one, too", x.lose(0, 1), true);
        CHECK.due("14: lost", x.count(4), 3);
    }

    private static void promise15Deaf() {
        WhoIsThere x = new WhoIsThere();
        x.host(0, 1, 9, 5);
        x.host(0, 1, 9, 5);
        x.host(0, 1, 9, 5);
        CHECK.due("15: -1", x.deaf(1, -1), false);
        CHECK.due("15: 101", x.deaf(1, 101), false);
        CHECK.due("15: none such", x.deaf(3, 1), false);
        for (int out : OUT) {
            CHECK.due("15: host out", x.deaf(out, 1), false);
            CHECK.due("15: n out", x.deaf(1, out), false);
        }
        CHECK.due("15: 100", x.deaf(1, 100), true);
        CHECK.due("15: 1 instead", x.deaf(1, 1), true);
        x.lie(0, 0, 1, 0, 4);
        x.tick(1);
        CHECK.due("15: not heard", x.record(1, 0, 2), -1);
        CHECK.due("15: heard by another", x.record(2, 0, 2), 4);
        CHECK.due("15: not lost", x.count(4), 0);
        x.tick(2);
        CHECK.due("15: the next one heard", x.record(1, 0, 2), 4);
        x.fall(1);
        CHECK.due("15: a gone one, too", x.deaf(1, 1), true);
    }

    private static void promise16Join() {
        WhoIsThere x = new WhoIsThere();
        x.host(0, 1, 9, 5);
        x.host(1, 1, 9, 5);
        x.host(2, 1, 9, 5);
        x.host(1, 1, 9, 5);
        x.host(2, 1, 9, 5);
        x.lie(0, 0, 1, 0, 40);
        x.lie(1, 0, 2, 0, 40);
        x.lie(2, 0, 3, 0, 40);
        x.offer(0, 0, 4, 0, 40);
        x.bridge(4, 1, 1);
        x.tick(2);
        x.fall(3);
        CHECK.due("16: the same", x.join(1, 1), false);
        CHECK.due("16: net 4", x.join(4, 1), false);
        CHECK.due("16: net -1", x.join(1, -1), false);
        for (int out : OUT) {
            CHECK.due("16: a out", x.join(out, 1), false);
            CHECK.due("16: b out", x.join(1, out), false);
        }
        CHECK.due("16: join", x.join(0, 1), true);
        CHECK.due("16: home moved", x.look(1, 1), 0);
        CHECK.due("16: of a gone one, too", x.look(3, 1), 0);
        CHECK.due("16: second net moved", x.look(4, 2), 0);
        CHECK.due("16: home of others stays", x.look(2, 1), 2);
        CHECK.due("16: renewal there", x.service(0, 5), 2);
        CHECK.due("16: renewal of the moved", x.service(1, 5), 2);
        CHECK.due("16: renewal elsewhere", x.service(2, 5), 20);
        CHECK.due("16: none of a claiming one", x.service(3, 5), -1);
        x.tick(1);
        CHECK.due("16: they hear one another", x.record(1, 0, 0), 1);
        CHECK.due("16: both ways", x.record(0, 1, 0), 2);
        CHECK.due("16: an empty net joins", x.join(3, 1), true);
        CHECK.due("16: a new host there", x.host(1, 1, 9, 5), 5);
    }
}
