/** One call on a learner, and its answer; 1 and 0 stand for true and false. */
interface Call {
    long on(CountLearner x);
}
