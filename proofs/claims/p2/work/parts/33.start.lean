/-! what stands at the law's entry (by program: wip/gen/start.py) -/
theorem and_b {a b : Cond} {args : Array Value} {s : State} (h : (Cond.and a b).before args s = true) : a.before args s = true ∧ b.before args s = true := by
  rw [Cond.before_and, Bool.and_eq_true] at h
  exact h
section Nar
variable {args : Array Value} {s : State}
def nd_0 (h : narrow_1.before args s = true) := and_b (h)
def nd_01 (h : narrow_1.before args s = true) := and_b ((nd_0 h).1)
def nd_011 (h : narrow_1.before args s = true) := and_b ((nd_01 h).1)
def nd_0111 (h : narrow_1.before args s = true) := and_b ((nd_011 h).1)
def nd_01111 (h : narrow_1.before args s = true) := and_b ((nd_0111 h).1)
def nd_011111 (h : narrow_1.before args s = true) := and_b ((nd_01111 h).1)
def nd_0111111 (h : narrow_1.before args s = true) := and_b ((nd_011111 h).1)
def nd_01111111 (h : narrow_1.before args s = true) := and_b ((nd_0111111 h).1)
def nd_011111111 (h : narrow_1.before args s = true) := and_b ((nd_01111111 h).1)
def nd_011111112 (h : narrow_1.before args s = true) := and_b ((nd_01111111 h).2)
def nd_0111111122 (h : narrow_1.before args s = true) := and_b ((nd_011111112 h).2)
def nd_01111112 (h : narrow_1.before args s = true) := and_b ((nd_0111111 h).2)
def nd_011111121 (h : narrow_1.before args s = true) := and_b ((nd_01111112 h).1)
def nd_011111122 (h : narrow_1.before args s = true) := and_b ((nd_01111112 h).2)
def nd_0111111222 (h : narrow_1.before args s = true) := and_b ((nd_011111122 h).2)
def nd_0111112 (h : narrow_1.before args s = true) := and_b ((nd_011111 h).2)
def nd_01111121 (h : narrow_1.before args s = true) := and_b ((nd_0111112 h).1)
def nd_011111211 (h : narrow_1.before args s = true) := and_b ((nd_01111121 h).1)
def nd_011111212 (h : narrow_1.before args s = true) := and_b ((nd_01111121 h).2)
def nd_0111112122 (h : narrow_1.before args s = true) := and_b ((nd_011111212 h).2)
def nd_01111122 (h : narrow_1.before args s = true) := and_b ((nd_0111112 h).2)
def nd_011111221 (h : narrow_1.before args s = true) := and_b ((nd_01111122 h).1)
def nd_011111222 (h : narrow_1.before args s = true) := and_b ((nd_01111122 h).2)
def nd_0111112222 (h : narrow_1.before args s = true) := and_b ((nd_011111222 h).2)
def nd_011112 (h : narrow_1.before args s = true) := and_b ((nd_01111 h).2)
def nd_0111121 (h : narrow_1.before args s = true) := and_b ((nd_011112 h).1)
def nd_01111211 (h : narrow_1.before args s = true) := and_b ((nd_0111121 h).1)
def nd_011112111 (h : narrow_1.before args s = true) := and_b ((nd_01111211 h).1)
def nd_011112112 (h : narrow_1.before args s = true) := and_b ((nd_01111211 h).2)
def nd_0111121122 (h : narrow_1.before args s = true) := and_b ((nd_011112112 h).2)
def nd_01111212 (h : narrow_1.before args s = true) := and_b ((nd_0111121 h).2)
def nd_011112121 (h : narrow_1.before args s = true) := and_b ((nd_01111212 h).1)
def nd_011112122 (h : narrow_1.before args s = true) := and_b ((nd_01111212 h).2)
def nd_0111121222 (h : narrow_1.before args s = true) := and_b ((nd_011112122 h).2)
def nd_0111122 (h : narrow_1.before args s = true) := and_b ((nd_011112 h).2)
def nd_01111221 (h : narrow_1.before args s = true) := and_b ((nd_0111122 h).1)
def nd_011112211 (h : narrow_1.before args s = true) := and_b ((nd_01111221 h).1)
def nd_011112212 (h : narrow_1.before args s = true) := and_b ((nd_01111221 h).2)
def nd_0111122122 (h : narrow_1.before args s = true) := and_b ((nd_011112212 h).2)
def nd_01111222 (h : narrow_1.before args s = true) := and_b ((nd_0111122 h).2)
def nd_011112221 (h : narrow_1.before args s = true) := and_b ((nd_01111222 h).1)
def nd_011112222 (h : narrow_1.before args s = true) := and_b ((nd_01111222 h).2)
def nd_0111122222 (h : narrow_1.before args s = true) := and_b ((nd_011112222 h).2)
def nd_01112 (h : narrow_1.before args s = true) := and_b ((nd_0111 h).2)
def nd_011121 (h : narrow_1.before args s = true) := and_b ((nd_01112 h).1)
def nd_0111211 (h : narrow_1.before args s = true) := and_b ((nd_011121 h).1)
def nd_01112111 (h : narrow_1.before args s = true) := and_b ((nd_0111211 h).1)
def nd_011121111 (h : narrow_1.before args s = true) := and_b ((nd_01112111 h).1)
def nd_011121112 (h : narrow_1.before args s = true) := and_b ((nd_01112111 h).2)
def nd_0111211122 (h : narrow_1.before args s = true) := and_b ((nd_011121112 h).2)
def nd_01112112 (h : narrow_1.before args s = true) := and_b ((nd_0111211 h).2)
def nd_011121121 (h : narrow_1.before args s = true) := and_b ((nd_01112112 h).1)
def nd_011121122 (h : narrow_1.before args s = true) := and_b ((nd_01112112 h).2)
def nd_0111211222 (h : narrow_1.before args s = true) := and_b ((nd_011121122 h).2)
def nd_0111212 (h : narrow_1.before args s = true) := and_b ((nd_011121 h).2)
def nd_01112121 (h : narrow_1.before args s = true) := and_b ((nd_0111212 h).1)
def nd_011121211 (h : narrow_1.before args s = true) := and_b ((nd_01112121 h).1)
def nd_011121212 (h : narrow_1.before args s = true) := and_b ((nd_01112121 h).2)
def nd_0111212122 (h : narrow_1.before args s = true) := and_b ((nd_011121212 h).2)
def nd_01112122 (h : narrow_1.before args s = true) := and_b ((nd_0111212 h).2)
def nd_011121221 (h : narrow_1.before args s = true) := and_b ((nd_01112122 h).1)
def nd_011121222 (h : narrow_1.before args s = true) := and_b ((nd_01112122 h).2)
def nd_0111212222 (h : narrow_1.before args s = true) := and_b ((nd_011121222 h).2)
def nd_011122 (h : narrow_1.before args s = true) := and_b ((nd_01112 h).2)
def nd_0111221 (h : narrow_1.before args s = true) := and_b ((nd_011122 h).1)
def nd_01112211 (h : narrow_1.before args s = true) := and_b ((nd_0111221 h).1)
def nd_011122111 (h : narrow_1.before args s = true) := and_b ((nd_01112211 h).1)
def nd_011122112 (h : narrow_1.before args s = true) := and_b ((nd_01112211 h).2)
def nd_0111221122 (h : narrow_1.before args s = true) := and_b ((nd_011122112 h).2)
def nd_01112212 (h : narrow_1.before args s = true) := and_b ((nd_0111221 h).2)
def nd_011122121 (h : narrow_1.before args s = true) := and_b ((nd_01112212 h).1)
def nd_011122122 (h : narrow_1.before args s = true) := and_b ((nd_01112212 h).2)
def nd_0111221222 (h : narrow_1.before args s = true) := and_b ((nd_011122122 h).2)
def nd_0111222 (h : narrow_1.before args s = true) := and_b ((nd_011122 h).2)
def nd_01112221 (h : narrow_1.before args s = true) := and_b ((nd_0111222 h).1)
def nd_011122211 (h : narrow_1.before args s = true) := and_b ((nd_01112221 h).1)
def nd_011122212 (h : narrow_1.before args s = true) := and_b ((nd_01112221 h).2)
def nd_0111222122 (h : narrow_1.before args s = true) := and_b ((nd_011122212 h).2)
def nd_01112222 (h : narrow_1.before args s = true) := and_b ((nd_0111222 h).2)
def nd_011122221 (h : narrow_1.before args s = true) := and_b ((nd_01112222 h).1)
def nd_0111222212 (h : narrow_1.before args s = true) := and_b ((nd_011122221 h).2)
def nd_011122222 (h : narrow_1.before args s = true) := and_b ((nd_01112222 h).2)
def nd_0111222222 (h : narrow_1.before args s = true) := and_b ((nd_011122222 h).2)
def nd_0112 (h : narrow_1.before args s = true) := and_b ((nd_011 h).2)
def nd_01121 (h : narrow_1.before args s = true) := and_b ((nd_0112 h).1)
def nd_011211 (h : narrow_1.before args s = true) := and_b ((nd_01121 h).1)
def nd_0112111 (h : narrow_1.before args s = true) := and_b ((nd_011211 h).1)
def nd_01121111 (h : narrow_1.before args s = true) := and_b ((nd_0112111 h).1)
def nd_011211111 (h : narrow_1.before args s = true) := and_b ((nd_01121111 h).1)
def nd_011211112 (h : narrow_1.before args s = true) := and_b ((nd_01121111 h).2)
def nd_0112111122 (h : narrow_1.before args s = true) := and_b ((nd_011211112 h).2)
def nd_01121112 (h : narrow_1.before args s = true) := and_b ((nd_0112111 h).2)
def nd_011211121 (h : narrow_1.before args s = true) := and_b ((nd_01121112 h).1)
def nd_011211122 (h : narrow_1.before args s = true) := and_b ((nd_01121112 h).2)
def nd_0112111222 (h : narrow_1.before args s = true) := and_b ((nd_011211122 h).2)
def nd_0112112 (h : narrow_1.before args s = true) := and_b ((nd_011211 h).2)
def nd_01121121 (h : narrow_1.before args s = true) := and_b ((nd_0112112 h).1)
def nd_011211211 (h : narrow_1.before args s = true) := and_b ((nd_01121121 h).1)
def nd_011211212 (h : narrow_1.before args s = true) := and_b ((nd_01121121 h).2)
def nd_0112112122 (h : narrow_1.before args s = true) := and_b ((nd_011211212 h).2)
def nd_01121122 (h : narrow_1.before args s = true) := and_b ((nd_0112112 h).2)
def nd_011211221 (h : narrow_1.before args s = true) := and_b ((nd_01121122 h).1)
def nd_011211222 (h : narrow_1.before args s = true) := and_b ((nd_01121122 h).2)
def nd_0112112222 (h : narrow_1.before args s = true) := and_b ((nd_011211222 h).2)
def nd_011212 (h : narrow_1.before args s = true) := and_b ((nd_01121 h).2)
def nd_0112121 (h : narrow_1.before args s = true) := and_b ((nd_011212 h).1)
def nd_01121211 (h : narrow_1.before args s = true) := and_b ((nd_0112121 h).1)
def nd_011212111 (h : narrow_1.before args s = true) := and_b ((nd_01121211 h).1)
def nd_011212112 (h : narrow_1.before args s = true) := and_b ((nd_01121211 h).2)
def nd_0112121122 (h : narrow_1.before args s = true) := and_b ((nd_011212112 h).2)
def nd_01121212 (h : narrow_1.before args s = true) := and_b ((nd_0112121 h).2)
def nd_011212121 (h : narrow_1.before args s = true) := and_b ((nd_01121212 h).1)
def nd_011212122 (h : narrow_1.before args s = true) := and_b ((nd_01121212 h).2)
def nd_0112121222 (h : narrow_1.before args s = true) := and_b ((nd_011212122 h).2)
def nd_0112122 (h : narrow_1.before args s = true) := and_b ((nd_011212 h).2)
def nd_01121221 (h : narrow_1.before args s = true) := and_b ((nd_0112122 h).1)
def nd_011212211 (h : narrow_1.before args s = true) := and_b ((nd_01121221 h).1)
def nd_011212212 (h : narrow_1.before args s = true) := and_b ((nd_01121221 h).2)
def nd_0112122122 (h : narrow_1.before args s = true) := and_b ((nd_011212212 h).2)
def nd_01121222 (h : narrow_1.before args s = true) := and_b ((nd_0112122 h).2)
def nd_011212221 (h : narrow_1.before args s = true) := and_b ((nd_01121222 h).1)
def nd_011212222 (h : narrow_1.before args s = true) := and_b ((nd_01121222 h).2)
def nd_0112122222 (h : narrow_1.before args s = true) := and_b ((nd_011212222 h).2)
def nd_01122 (h : narrow_1.before args s = true) := and_b ((nd_0112 h).2)
def nd_011221 (h : narrow_1.before args s = true) := and_b ((nd_01122 h).1)
def nd_0112211 (h : narrow_1.before args s = true) := and_b ((nd_011221 h).1)
def nd_01122111 (h : narrow_1.before args s = true) := and_b ((nd_0112211 h).1)
def nd_011221111 (h : narrow_1.before args s = true) := and_b ((nd_01122111 h).1)
def nd_011221112 (h : narrow_1.before args s = true) := and_b ((nd_01122111 h).2)
def nd_0112211122 (h : narrow_1.before args s = true) := and_b ((nd_011221112 h).2)
def nd_01122112 (h : narrow_1.before args s = true) := and_b ((nd_0112211 h).2)
def nd_011221121 (h : narrow_1.before args s = true) := and_b ((nd_01122112 h).1)
def nd_011221122 (h : narrow_1.before args s = true) := and_b ((nd_01122112 h).2)
def nd_0112211222 (h : narrow_1.before args s = true) := and_b ((nd_011221122 h).2)
def nd_0112212 (h : narrow_1.before args s = true) := and_b ((nd_011221 h).2)
def nd_01122121 (h : narrow_1.before args s = true) := and_b ((nd_0112212 h).1)
def nd_011221211 (h : narrow_1.before args s = true) := and_b ((nd_01122121 h).1)
def nd_011221212 (h : narrow_1.before args s = true) := and_b ((nd_01122121 h).2)
def nd_0112212122 (h : narrow_1.before args s = true) := and_b ((nd_011221212 h).2)
def nd_01122122 (h : narrow_1.before args s = true) := and_b ((nd_0112212 h).2)
def nd_011221221 (h : narrow_1.before args s = true) := and_b ((nd_01122122 h).1)
def nd_011221222 (h : narrow_1.before args s = true) := and_b ((nd_01122122 h).2)
def nd_0112212222 (h : narrow_1.before args s = true) := and_b ((nd_011221222 h).2)
def nd_011222 (h : narrow_1.before args s = true) := and_b ((nd_01122 h).2)
def nd_0112221 (h : narrow_1.before args s = true) := and_b ((nd_011222 h).1)
def nd_01122211 (h : narrow_1.before args s = true) := and_b ((nd_0112221 h).1)
def nd_011222111 (h : narrow_1.before args s = true) := and_b ((nd_01122211 h).1)
def nd_011222112 (h : narrow_1.before args s = true) := and_b ((nd_01122211 h).2)
def nd_0112221122 (h : narrow_1.before args s = true) := and_b ((nd_011222112 h).2)
def nd_01122212 (h : narrow_1.before args s = true) := and_b ((nd_0112221 h).2)
def nd_011222121 (h : narrow_1.before args s = true) := and_b ((nd_01122212 h).1)
def nd_011222122 (h : narrow_1.before args s = true) := and_b ((nd_01122212 h).2)
def nd_0112221222 (h : narrow_1.before args s = true) := and_b ((nd_011222122 h).2)
def nd_0112222 (h : narrow_1.before args s = true) := and_b ((nd_011222 h).2)
def nd_01122221 (h : narrow_1.before args s = true) := and_b ((nd_0112222 h).1)
def nd_011222211 (h : narrow_1.before args s = true) := and_b ((nd_01122221 h).1)
def nd_011222212 (h : narrow_1.before args s = true) := and_b ((nd_01122221 h).2)
def nd_0112222122 (h : narrow_1.before args s = true) := and_b ((nd_011222212 h).2)
def nd_01122222 (h : narrow_1.before args s = true) := and_b ((nd_0112222 h).2)
def nd_011222221 (h : narrow_1.before args s = true) := and_b ((nd_01122222 h).1)
def nd_0112222212 (h : narrow_1.before args s = true) := and_b ((nd_011222221 h).2)
def nd_011222222 (h : narrow_1.before args s = true) := and_b ((nd_01122222 h).2)
def nd_0112222222 (h : narrow_1.before args s = true) := and_b ((nd_011222222 h).2)
def nd_012 (h : narrow_1.before args s = true) := and_b ((nd_01 h).2)
def nd_0121 (h : narrow_1.before args s = true) := and_b ((nd_012 h).1)
def nd_01211 (h : narrow_1.before args s = true) := and_b ((nd_0121 h).1)
def nd_012111 (h : narrow_1.before args s = true) := and_b ((nd_01211 h).1)
def nd_0121111 (h : narrow_1.before args s = true) := and_b ((nd_012111 h).1)
def nd_01211111 (h : narrow_1.before args s = true) := and_b ((nd_0121111 h).1)
def nd_012111111 (h : narrow_1.before args s = true) := and_b ((nd_01211111 h).1)
def nd_012111112 (h : narrow_1.before args s = true) := and_b ((nd_01211111 h).2)
def nd_0121111122 (h : narrow_1.before args s = true) := and_b ((nd_012111112 h).2)
def nd_01211112 (h : narrow_1.before args s = true) := and_b ((nd_0121111 h).2)
def nd_012111121 (h : narrow_1.before args s = true) := and_b ((nd_01211112 h).1)
def nd_012111122 (h : narrow_1.before args s = true) := and_b ((nd_01211112 h).2)
def nd_0121111222 (h : narrow_1.before args s = true) := and_b ((nd_012111122 h).2)
def nd_0121112 (h : narrow_1.before args s = true) := and_b ((nd_012111 h).2)
def nd_01211121 (h : narrow_1.before args s = true) := and_b ((nd_0121112 h).1)
def nd_012111211 (h : narrow_1.before args s = true) := and_b ((nd_01211121 h).1)
def nd_012111212 (h : narrow_1.before args s = true) := and_b ((nd_01211121 h).2)
def nd_0121112122 (h : narrow_1.before args s = true) := and_b ((nd_012111212 h).2)
def nd_01211122 (h : narrow_1.before args s = true) := and_b ((nd_0121112 h).2)
def nd_012111221 (h : narrow_1.before args s = true) := and_b ((nd_01211122 h).1)
def nd_012111222 (h : narrow_1.before args s = true) := and_b ((nd_01211122 h).2)
def nd_0121112222 (h : narrow_1.before args s = true) := and_b ((nd_012111222 h).2)
def nd_012112 (h : narrow_1.before args s = true) := and_b ((nd_01211 h).2)
def nd_0121121 (h : narrow_1.before args s = true) := and_b ((nd_012112 h).1)
def nd_01211211 (h : narrow_1.before args s = true) := and_b ((nd_0121121 h).1)
def nd_012112111 (h : narrow_1.before args s = true) := and_b ((nd_01211211 h).1)
def nd_012112112 (h : narrow_1.before args s = true) := and_b ((nd_01211211 h).2)
def nd_0121121122 (h : narrow_1.before args s = true) := and_b ((nd_012112112 h).2)
def nd_01211212 (h : narrow_1.before args s = true) := and_b ((nd_0121121 h).2)
def nd_012112121 (h : narrow_1.before args s = true) := and_b ((nd_01211212 h).1)
def nd_012112122 (h : narrow_1.before args s = true) := and_b ((nd_01211212 h).2)
def nd_0121121222 (h : narrow_1.before args s = true) := and_b ((nd_012112122 h).2)
def nd_0121122 (h : narrow_1.before args s = true) := and_b ((nd_012112 h).2)
def nd_01211221 (h : narrow_1.before args s = true) := and_b ((nd_0121122 h).1)
def nd_012112211 (h : narrow_1.before args s = true) := and_b ((nd_01211221 h).1)
def nd_012112212 (h : narrow_1.before args s = true) := and_b ((nd_01211221 h).2)
def nd_0121122122 (h : narrow_1.before args s = true) := and_b ((nd_012112212 h).2)
def nd_01211222 (h : narrow_1.before args s = true) := and_b ((nd_0121122 h).2)
def nd_012112221 (h : narrow_1.before args s = true) := and_b ((nd_01211222 h).1)
def nd_012112222 (h : narrow_1.before args s = true) := and_b ((nd_01211222 h).2)
def nd_0121122222 (h : narrow_1.before args s = true) := and_b ((nd_012112222 h).2)
def nd_01212 (h : narrow_1.before args s = true) := and_b ((nd_0121 h).2)
def nd_012121 (h : narrow_1.before args s = true) := and_b ((nd_01212 h).1)
def nd_0121211 (h : narrow_1.before args s = true) := and_b ((nd_012121 h).1)
def nd_01212111 (h : narrow_1.before args s = true) := and_b ((nd_0121211 h).1)
def nd_012121111 (h : narrow_1.before args s = true) := and_b ((nd_01212111 h).1)
def nd_012121112 (h : narrow_1.before args s = true) := and_b ((nd_01212111 h).2)
def nd_0121211122 (h : narrow_1.before args s = true) := and_b ((nd_012121112 h).2)
def nd_01212112 (h : narrow_1.before args s = true) := and_b ((nd_0121211 h).2)
def nd_012121121 (h : narrow_1.before args s = true) := and_b ((nd_01212112 h).1)
def nd_012121122 (h : narrow_1.before args s = true) := and_b ((nd_01212112 h).2)
def nd_0121211222 (h : narrow_1.before args s = true) := and_b ((nd_012121122 h).2)
def nd_0121212 (h : narrow_1.before args s = true) := and_b ((nd_012121 h).2)
def nd_01212121 (h : narrow_1.before args s = true) := and_b ((nd_0121212 h).1)
def nd_012121211 (h : narrow_1.before args s = true) := and_b ((nd_01212121 h).1)
def nd_012121212 (h : narrow_1.before args s = true) := and_b ((nd_01212121 h).2)
def nd_0121212122 (h : narrow_1.before args s = true) := and_b ((nd_012121212 h).2)
def nd_01212122 (h : narrow_1.before args s = true) := and_b ((nd_0121212 h).2)
def nd_012121221 (h : narrow_1.before args s = true) := and_b ((nd_01212122 h).1)
def nd_012121222 (h : narrow_1.before args s = true) := and_b ((nd_01212122 h).2)
def nd_0121212222 (h : narrow_1.before args s = true) := and_b ((nd_012121222 h).2)
def nd_012122 (h : narrow_1.before args s = true) := and_b ((nd_01212 h).2)
def nd_0121221 (h : narrow_1.before args s = true) := and_b ((nd_012122 h).1)
def nd_01212211 (h : narrow_1.before args s = true) := and_b ((nd_0121221 h).1)
def nd_012122111 (h : narrow_1.before args s = true) := and_b ((nd_01212211 h).1)
def nd_012122112 (h : narrow_1.before args s = true) := and_b ((nd_01212211 h).2)
def nd_0121221122 (h : narrow_1.before args s = true) := and_b ((nd_012122112 h).2)
def nd_01212212 (h : narrow_1.before args s = true) := and_b ((nd_0121221 h).2)
def nd_012122121 (h : narrow_1.before args s = true) := and_b ((nd_01212212 h).1)
def nd_012122122 (h : narrow_1.before args s = true) := and_b ((nd_01212212 h).2)
def nd_0121221222 (h : narrow_1.before args s = true) := and_b ((nd_012122122 h).2)
def nd_0121222 (h : narrow_1.before args s = true) := and_b ((nd_012122 h).2)
def nd_01212221 (h : narrow_1.before args s = true) := and_b ((nd_0121222 h).1)
def nd_012122211 (h : narrow_1.before args s = true) := and_b ((nd_01212221 h).1)
def nd_012122212 (h : narrow_1.before args s = true) := and_b ((nd_01212221 h).2)
def nd_0121222122 (h : narrow_1.before args s = true) := and_b ((nd_012122212 h).2)
def nd_01212222 (h : narrow_1.before args s = true) := and_b ((nd_0121222 h).2)
def nd_012122221 (h : narrow_1.before args s = true) := and_b ((nd_01212222 h).1)
def nd_0121222212 (h : narrow_1.before args s = true) := and_b ((nd_012122221 h).2)
def nd_012122222 (h : narrow_1.before args s = true) := and_b ((nd_01212222 h).2)
def nd_0121222222 (h : narrow_1.before args s = true) := and_b ((nd_012122222 h).2)
def nd_0122 (h : narrow_1.before args s = true) := and_b ((nd_012 h).2)
def nd_01221 (h : narrow_1.before args s = true) := and_b ((nd_0122 h).1)
def nd_012211 (h : narrow_1.before args s = true) := and_b ((nd_01221 h).1)
def nd_0122111 (h : narrow_1.before args s = true) := and_b ((nd_012211 h).1)
def nd_01221111 (h : narrow_1.before args s = true) := and_b ((nd_0122111 h).1)
def nd_012211111 (h : narrow_1.before args s = true) := and_b ((nd_01221111 h).1)
def nd_012211112 (h : narrow_1.before args s = true) := and_b ((nd_01221111 h).2)
def nd_0122111122 (h : narrow_1.before args s = true) := and_b ((nd_012211112 h).2)
def nd_01221112 (h : narrow_1.before args s = true) := and_b ((nd_0122111 h).2)
def nd_012211121 (h : narrow_1.before args s = true) := and_b ((nd_01221112 h).1)
def nd_012211122 (h : narrow_1.before args s = true) := and_b ((nd_01221112 h).2)
def nd_0122111222 (h : narrow_1.before args s = true) := and_b ((nd_012211122 h).2)
def nd_0122112 (h : narrow_1.before args s = true) := and_b ((nd_012211 h).2)
def nd_01221121 (h : narrow_1.before args s = true) := and_b ((nd_0122112 h).1)
def nd_012211211 (h : narrow_1.before args s = true) := and_b ((nd_01221121 h).1)
def nd_012211212 (h : narrow_1.before args s = true) := and_b ((nd_01221121 h).2)
def nd_0122112122 (h : narrow_1.before args s = true) := and_b ((nd_012211212 h).2)
def nd_01221122 (h : narrow_1.before args s = true) := and_b ((nd_0122112 h).2)
def nd_012211221 (h : narrow_1.before args s = true) := and_b ((nd_01221122 h).1)
def nd_012211222 (h : narrow_1.before args s = true) := and_b ((nd_01221122 h).2)
def nd_0122112222 (h : narrow_1.before args s = true) := and_b ((nd_012211222 h).2)
def nd_012212 (h : narrow_1.before args s = true) := and_b ((nd_01221 h).2)
def nd_0122121 (h : narrow_1.before args s = true) := and_b ((nd_012212 h).1)
def nd_01221211 (h : narrow_1.before args s = true) := and_b ((nd_0122121 h).1)
def nd_012212111 (h : narrow_1.before args s = true) := and_b ((nd_01221211 h).1)
def nd_012212112 (h : narrow_1.before args s = true) := and_b ((nd_01221211 h).2)
def nd_0122121122 (h : narrow_1.before args s = true) := and_b ((nd_012212112 h).2)
def nd_01221212 (h : narrow_1.before args s = true) := and_b ((nd_0122121 h).2)
def nd_012212121 (h : narrow_1.before args s = true) := and_b ((nd_01221212 h).1)
def nd_012212122 (h : narrow_1.before args s = true) := and_b ((nd_01221212 h).2)
def nd_0122121222 (h : narrow_1.before args s = true) := and_b ((nd_012212122 h).2)
def nd_0122122 (h : narrow_1.before args s = true) := and_b ((nd_012212 h).2)
def nd_01221221 (h : narrow_1.before args s = true) := and_b ((nd_0122122 h).1)
def nd_012212211 (h : narrow_1.before args s = true) := and_b ((nd_01221221 h).1)
def nd_012212212 (h : narrow_1.before args s = true) := and_b ((nd_01221221 h).2)
def nd_0122122122 (h : narrow_1.before args s = true) := and_b ((nd_012212212 h).2)
def nd_01221222 (h : narrow_1.before args s = true) := and_b ((nd_0122122 h).2)
def nd_012212221 (h : narrow_1.before args s = true) := and_b ((nd_01221222 h).1)
def nd_0122122212 (h : narrow_1.before args s = true) := and_b ((nd_012212221 h).2)
def nd_012212222 (h : narrow_1.before args s = true) := and_b ((nd_01221222 h).2)
def nd_0122122222 (h : narrow_1.before args s = true) := and_b ((nd_012212222 h).2)
def nd_01222 (h : narrow_1.before args s = true) := and_b ((nd_0122 h).2)
def nd_012221 (h : narrow_1.before args s = true) := and_b ((nd_01222 h).1)
def nd_0122211 (h : narrow_1.before args s = true) := and_b ((nd_012221 h).1)
def nd_01222111 (h : narrow_1.before args s = true) := and_b ((nd_0122211 h).1)
def nd_012221111 (h : narrow_1.before args s = true) := and_b ((nd_01222111 h).1)
def nd_012221112 (h : narrow_1.before args s = true) := and_b ((nd_01222111 h).2)
def nd_0122211122 (h : narrow_1.before args s = true) := and_b ((nd_012221112 h).2)
def nd_01222112 (h : narrow_1.before args s = true) := and_b ((nd_0122211 h).2)
def nd_012221121 (h : narrow_1.before args s = true) := and_b ((nd_01222112 h).1)
def nd_012221122 (h : narrow_1.before args s = true) := and_b ((nd_01222112 h).2)
def nd_0122211222 (h : narrow_1.before args s = true) := and_b ((nd_012221122 h).2)
def nd_0122212 (h : narrow_1.before args s = true) := and_b ((nd_012221 h).2)
def nd_01222121 (h : narrow_1.before args s = true) := and_b ((nd_0122212 h).1)
def nd_012221211 (h : narrow_1.before args s = true) := and_b ((nd_01222121 h).1)
def nd_012221212 (h : narrow_1.before args s = true) := and_b ((nd_01222121 h).2)
def nd_0122212122 (h : narrow_1.before args s = true) := and_b ((nd_012221212 h).2)
def nd_01222122 (h : narrow_1.before args s = true) := and_b ((nd_0122212 h).2)
def nd_012221221 (h : narrow_1.before args s = true) := and_b ((nd_01222122 h).1)
def nd_012221222 (h : narrow_1.before args s = true) := and_b ((nd_01222122 h).2)
def nd_0122212222 (h : narrow_1.before args s = true) := and_b ((nd_012221222 h).2)
def nd_012222 (h : narrow_1.before args s = true) := and_b ((nd_01222 h).2)
def nd_0122221 (h : narrow_1.before args s = true) := and_b ((nd_012222 h).1)
def nd_01222211 (h : narrow_1.before args s = true) := and_b ((nd_0122221 h).1)
def nd_012222111 (h : narrow_1.before args s = true) := and_b ((nd_01222211 h).1)
def nd_012222112 (h : narrow_1.before args s = true) := and_b ((nd_01222211 h).2)
def nd_0122221122 (h : narrow_1.before args s = true) := and_b ((nd_012222112 h).2)
def nd_01222212 (h : narrow_1.before args s = true) := and_b ((nd_0122221 h).2)
def nd_012222121 (h : narrow_1.before args s = true) := and_b ((nd_01222212 h).1)
def nd_012222122 (h : narrow_1.before args s = true) := and_b ((nd_01222212 h).2)
def nd_0122221222 (h : narrow_1.before args s = true) := and_b ((nd_012222122 h).2)
def nd_0122222 (h : narrow_1.before args s = true) := and_b ((nd_012222 h).2)
def nd_01222221 (h : narrow_1.before args s = true) := and_b ((nd_0122222 h).1)
def nd_012222211 (h : narrow_1.before args s = true) := and_b ((nd_01222221 h).1)
def nd_012222212 (h : narrow_1.before args s = true) := and_b ((nd_01222221 h).2)
def nd_0122222122 (h : narrow_1.before args s = true) := and_b ((nd_012222212 h).2)
def nd_01222222 (h : narrow_1.before args s = true) := and_b ((nd_0122222 h).2)
def nd_012222221 (h : narrow_1.before args s = true) := and_b ((nd_01222222 h).1)
def nd_0122222212 (h : narrow_1.before args s = true) := and_b ((nd_012222221 h).2)
def nd_012222222 (h : narrow_1.before args s = true) := and_b ((nd_01222222 h).2)
def nd_0122222222 (h : narrow_1.before args s = true) := and_b ((nd_012222222 h).2)
def nd_02 (h : narrow_1.before args s = true) := and_b ((nd_0 h).2)
def nd_021 (h : narrow_1.before args s = true) := and_b ((nd_02 h).1)
def nd_0211 (h : narrow_1.before args s = true) := and_b ((nd_021 h).1)
def nd_02111 (h : narrow_1.before args s = true) := and_b ((nd_0211 h).1)
def nd_021111 (h : narrow_1.before args s = true) := and_b ((nd_02111 h).1)
def nd_0211111 (h : narrow_1.before args s = true) := and_b ((nd_021111 h).1)
def nd_02111111 (h : narrow_1.before args s = true) := and_b ((nd_0211111 h).1)
def nd_021111111 (h : narrow_1.before args s = true) := and_b ((nd_02111111 h).1)
def nd_021111112 (h : narrow_1.before args s = true) := and_b ((nd_02111111 h).2)
def nd_0211111122 (h : narrow_1.before args s = true) := and_b ((nd_021111112 h).2)
def nd_02111112 (h : narrow_1.before args s = true) := and_b ((nd_0211111 h).2)
def nd_021111121 (h : narrow_1.before args s = true) := and_b ((nd_02111112 h).1)
def nd_021111122 (h : narrow_1.before args s = true) := and_b ((nd_02111112 h).2)
def nd_0211111222 (h : narrow_1.before args s = true) := and_b ((nd_021111122 h).2)
def nd_0211112 (h : narrow_1.before args s = true) := and_b ((nd_021111 h).2)
def nd_02111121 (h : narrow_1.before args s = true) := and_b ((nd_0211112 h).1)
def nd_021111211 (h : narrow_1.before args s = true) := and_b ((nd_02111121 h).1)
def nd_021111212 (h : narrow_1.before args s = true) := and_b ((nd_02111121 h).2)
def nd_0211112122 (h : narrow_1.before args s = true) := and_b ((nd_021111212 h).2)
def nd_02111122 (h : narrow_1.before args s = true) := and_b ((nd_0211112 h).2)
def nd_021111221 (h : narrow_1.before args s = true) := and_b ((nd_02111122 h).1)
def nd_021111222 (h : narrow_1.before args s = true) := and_b ((nd_02111122 h).2)
def nd_0211112222 (h : narrow_1.before args s = true) := and_b ((nd_021111222 h).2)
def nd_021112 (h : narrow_1.before args s = true) := and_b ((nd_02111 h).2)
def nd_0211121 (h : narrow_1.before args s = true) := and_b ((nd_021112 h).1)
def nd_02111211 (h : narrow_1.before args s = true) := and_b ((nd_0211121 h).1)
def nd_021112111 (h : narrow_1.before args s = true) := and_b ((nd_02111211 h).1)
def nd_021112112 (h : narrow_1.before args s = true) := and_b ((nd_02111211 h).2)
def nd_0211121122 (h : narrow_1.before args s = true) := and_b ((nd_021112112 h).2)
def nd_02111212 (h : narrow_1.before args s = true) := and_b ((nd_0211121 h).2)
def nd_021112121 (h : narrow_1.before args s = true) := and_b ((nd_02111212 h).1)
def nd_021112122 (h : narrow_1.before args s = true) := and_b ((nd_02111212 h).2)
def nd_0211121222 (h : narrow_1.before args s = true) := and_b ((nd_021112122 h).2)
def nd_0211122 (h : narrow_1.before args s = true) := and_b ((nd_021112 h).2)
def nd_02111221 (h : narrow_1.before args s = true) := and_b ((nd_0211122 h).1)
def nd_021112211 (h : narrow_1.before args s = true) := and_b ((nd_02111221 h).1)
def nd_021112212 (h : narrow_1.before args s = true) := and_b ((nd_02111221 h).2)
def nd_0211122122 (h : narrow_1.before args s = true) := and_b ((nd_021112212 h).2)
def nd_02111222 (h : narrow_1.before args s = true) := and_b ((nd_0211122 h).2)
def nd_021112221 (h : narrow_1.before args s = true) := and_b ((nd_02111222 h).1)
def nd_021112222 (h : narrow_1.before args s = true) := and_b ((nd_02111222 h).2)
def nd_0211122222 (h : narrow_1.before args s = true) := and_b ((nd_021112222 h).2)
def nd_02112 (h : narrow_1.before args s = true) := and_b ((nd_0211 h).2)
def nd_021121 (h : narrow_1.before args s = true) := and_b ((nd_02112 h).1)
def nd_0211211 (h : narrow_1.before args s = true) := and_b ((nd_021121 h).1)
def nd_02112111 (h : narrow_1.before args s = true) := and_b ((nd_0211211 h).1)
def nd_021121111 (h : narrow_1.before args s = true) := and_b ((nd_02112111 h).1)
def nd_021121112 (h : narrow_1.before args s = true) := and_b ((nd_02112111 h).2)
def nd_0211211122 (h : narrow_1.before args s = true) := and_b ((nd_021121112 h).2)
def nd_02112112 (h : narrow_1.before args s = true) := and_b ((nd_0211211 h).2)
def nd_021121121 (h : narrow_1.before args s = true) := and_b ((nd_02112112 h).1)
def nd_021121122 (h : narrow_1.before args s = true) := and_b ((nd_02112112 h).2)
def nd_0211211222 (h : narrow_1.before args s = true) := and_b ((nd_021121122 h).2)
def nd_0211212 (h : narrow_1.before args s = true) := and_b ((nd_021121 h).2)
def nd_02112121 (h : narrow_1.before args s = true) := and_b ((nd_0211212 h).1)
def nd_021121211 (h : narrow_1.before args s = true) := and_b ((nd_02112121 h).1)
def nd_021121212 (h : narrow_1.before args s = true) := and_b ((nd_02112121 h).2)
def nd_0211212122 (h : narrow_1.before args s = true) := and_b ((nd_021121212 h).2)
def nd_02112122 (h : narrow_1.before args s = true) := and_b ((nd_0211212 h).2)
def nd_021121221 (h : narrow_1.before args s = true) := and_b ((nd_02112122 h).1)
def nd_021121222 (h : narrow_1.before args s = true) := and_b ((nd_02112122 h).2)
def nd_0211212222 (h : narrow_1.before args s = true) := and_b ((nd_021121222 h).2)
def nd_021122 (h : narrow_1.before args s = true) := and_b ((nd_02112 h).2)
def nd_0211221 (h : narrow_1.before args s = true) := and_b ((nd_021122 h).1)
def nd_02112211 (h : narrow_1.before args s = true) := and_b ((nd_0211221 h).1)
def nd_021122111 (h : narrow_1.before args s = true) := and_b ((nd_02112211 h).1)
def nd_021122112 (h : narrow_1.before args s = true) := and_b ((nd_02112211 h).2)
def nd_0211221122 (h : narrow_1.before args s = true) := and_b ((nd_021122112 h).2)
def nd_02112212 (h : narrow_1.before args s = true) := and_b ((nd_0211221 h).2)
def nd_021122121 (h : narrow_1.before args s = true) := and_b ((nd_02112212 h).1)
def nd_021122122 (h : narrow_1.before args s = true) := and_b ((nd_02112212 h).2)
def nd_0211221222 (h : narrow_1.before args s = true) := and_b ((nd_021122122 h).2)
def nd_0211222 (h : narrow_1.before args s = true) := and_b ((nd_021122 h).2)
def nd_02112221 (h : narrow_1.before args s = true) := and_b ((nd_0211222 h).1)
def nd_021122211 (h : narrow_1.before args s = true) := and_b ((nd_02112221 h).1)
def nd_021122212 (h : narrow_1.before args s = true) := and_b ((nd_02112221 h).2)
def nd_0211222122 (h : narrow_1.before args s = true) := and_b ((nd_021122212 h).2)
def nd_02112222 (h : narrow_1.before args s = true) := and_b ((nd_0211222 h).2)
def nd_021122221 (h : narrow_1.before args s = true) := and_b ((nd_02112222 h).1)
def nd_0211222212 (h : narrow_1.before args s = true) := and_b ((nd_021122221 h).2)
def nd_021122222 (h : narrow_1.before args s = true) := and_b ((nd_02112222 h).2)
def nd_0211222222 (h : narrow_1.before args s = true) := and_b ((nd_021122222 h).2)
def nd_0212 (h : narrow_1.before args s = true) := and_b ((nd_021 h).2)
def nd_02121 (h : narrow_1.before args s = true) := and_b ((nd_0212 h).1)
def nd_021211 (h : narrow_1.before args s = true) := and_b ((nd_02121 h).1)
def nd_0212111 (h : narrow_1.before args s = true) := and_b ((nd_021211 h).1)
def nd_02121111 (h : narrow_1.before args s = true) := and_b ((nd_0212111 h).1)
def nd_021211111 (h : narrow_1.before args s = true) := and_b ((nd_02121111 h).1)
def nd_021211112 (h : narrow_1.before args s = true) := and_b ((nd_02121111 h).2)
def nd_0212111122 (h : narrow_1.before args s = true) := and_b ((nd_021211112 h).2)
def nd_02121112 (h : narrow_1.before args s = true) := and_b ((nd_0212111 h).2)
def nd_021211121 (h : narrow_1.before args s = true) := and_b ((nd_02121112 h).1)
def nd_021211122 (h : narrow_1.before args s = true) := and_b ((nd_02121112 h).2)
def nd_0212111222 (h : narrow_1.before args s = true) := and_b ((nd_021211122 h).2)
def nd_0212112 (h : narrow_1.before args s = true) := and_b ((nd_021211 h).2)
def nd_02121121 (h : narrow_1.before args s = true) := and_b ((nd_0212112 h).1)
def nd_021211211 (h : narrow_1.before args s = true) := and_b ((nd_02121121 h).1)
def nd_021211212 (h : narrow_1.before args s = true) := and_b ((nd_02121121 h).2)
def nd_0212112122 (h : narrow_1.before args s = true) := and_b ((nd_021211212 h).2)
def nd_02121122 (h : narrow_1.before args s = true) := and_b ((nd_0212112 h).2)
def nd_021211221 (h : narrow_1.before args s = true) := and_b ((nd_02121122 h).1)
def nd_021211222 (h : narrow_1.before args s = true) := and_b ((nd_02121122 h).2)
def nd_0212112222 (h : narrow_1.before args s = true) := and_b ((nd_021211222 h).2)
def nd_021212 (h : narrow_1.before args s = true) := and_b ((nd_02121 h).2)
def nd_0212121 (h : narrow_1.before args s = true) := and_b ((nd_021212 h).1)
def nd_02121211 (h : narrow_1.before args s = true) := and_b ((nd_0212121 h).1)
def nd_021212111 (h : narrow_1.before args s = true) := and_b ((nd_02121211 h).1)
def nd_021212112 (h : narrow_1.before args s = true) := and_b ((nd_02121211 h).2)
def nd_0212121122 (h : narrow_1.before args s = true) := and_b ((nd_021212112 h).2)
def nd_02121212 (h : narrow_1.before args s = true) := and_b ((nd_0212121 h).2)
def nd_021212121 (h : narrow_1.before args s = true) := and_b ((nd_02121212 h).1)
def nd_021212122 (h : narrow_1.before args s = true) := and_b ((nd_02121212 h).2)
def nd_0212121222 (h : narrow_1.before args s = true) := and_b ((nd_021212122 h).2)
def nd_0212122 (h : narrow_1.before args s = true) := and_b ((nd_021212 h).2)
def nd_02121221 (h : narrow_1.before args s = true) := and_b ((nd_0212122 h).1)
def nd_021212211 (h : narrow_1.before args s = true) := and_b ((nd_02121221 h).1)
def nd_021212212 (h : narrow_1.before args s = true) := and_b ((nd_02121221 h).2)
def nd_0212122122 (h : narrow_1.before args s = true) := and_b ((nd_021212212 h).2)
def nd_02121222 (h : narrow_1.before args s = true) := and_b ((nd_0212122 h).2)
def nd_021212221 (h : narrow_1.before args s = true) := and_b ((nd_02121222 h).1)
def nd_0212122212 (h : narrow_1.before args s = true) := and_b ((nd_021212221 h).2)
def nd_021212222 (h : narrow_1.before args s = true) := and_b ((nd_02121222 h).2)
def nd_0212122222 (h : narrow_1.before args s = true) := and_b ((nd_021212222 h).2)
def nd_02122 (h : narrow_1.before args s = true) := and_b ((nd_0212 h).2)
def nd_021221 (h : narrow_1.before args s = true) := and_b ((nd_02122 h).1)
def nd_0212211 (h : narrow_1.before args s = true) := and_b ((nd_021221 h).1)
def nd_02122111 (h : narrow_1.before args s = true) := and_b ((nd_0212211 h).1)
def nd_021221111 (h : narrow_1.before args s = true) := and_b ((nd_02122111 h).1)
def nd_021221112 (h : narrow_1.before args s = true) := and_b ((nd_02122111 h).2)
def nd_0212211122 (h : narrow_1.before args s = true) := and_b ((nd_021221112 h).2)
def nd_02122112 (h : narrow_1.before args s = true) := and_b ((nd_0212211 h).2)
def nd_021221121 (h : narrow_1.before args s = true) := and_b ((nd_02122112 h).1)
def nd_021221122 (h : narrow_1.before args s = true) := and_b ((nd_02122112 h).2)
def nd_0212211222 (h : narrow_1.before args s = true) := and_b ((nd_021221122 h).2)
def nd_0212212 (h : narrow_1.before args s = true) := and_b ((nd_021221 h).2)
def nd_02122121 (h : narrow_1.before args s = true) := and_b ((nd_0212212 h).1)
def nd_021221211 (h : narrow_1.before args s = true) := and_b ((nd_02122121 h).1)
def nd_021221212 (h : narrow_1.before args s = true) := and_b ((nd_02122121 h).2)
def nd_0212212122 (h : narrow_1.before args s = true) := and_b ((nd_021221212 h).2)
def nd_02122122 (h : narrow_1.before args s = true) := and_b ((nd_0212212 h).2)
def nd_021221221 (h : narrow_1.before args s = true) := and_b ((nd_02122122 h).1)
def nd_021221222 (h : narrow_1.before args s = true) := and_b ((nd_02122122 h).2)
def nd_0212212222 (h : narrow_1.before args s = true) := and_b ((nd_021221222 h).2)
def nd_021222 (h : narrow_1.before args s = true) := and_b ((nd_02122 h).2)
def nd_0212221 (h : narrow_1.before args s = true) := and_b ((nd_021222 h).1)
def nd_02122211 (h : narrow_1.before args s = true) := and_b ((nd_0212221 h).1)
def nd_021222111 (h : narrow_1.before args s = true) := and_b ((nd_02122211 h).1)
def nd_021222112 (h : narrow_1.before args s = true) := and_b ((nd_02122211 h).2)
def nd_0212221122 (h : narrow_1.before args s = true) := and_b ((nd_021222112 h).2)
def nd_02122212 (h : narrow_1.before args s = true) := and_b ((nd_0212221 h).2)
def nd_021222121 (h : narrow_1.before args s = true) := and_b ((nd_02122212 h).1)
def nd_021222122 (h : narrow_1.before args s = true) := and_b ((nd_02122212 h).2)
def nd_0212221222 (h : narrow_1.before args s = true) := and_b ((nd_021222122 h).2)
def nd_0212222 (h : narrow_1.before args s = true) := and_b ((nd_021222 h).2)
def nd_02122221 (h : narrow_1.before args s = true) := and_b ((nd_0212222 h).1)
def nd_021222211 (h : narrow_1.before args s = true) := and_b ((nd_02122221 h).1)
def nd_021222212 (h : narrow_1.before args s = true) := and_b ((nd_02122221 h).2)
def nd_0212222122 (h : narrow_1.before args s = true) := and_b ((nd_021222212 h).2)
def nd_02122222 (h : narrow_1.before args s = true) := and_b ((nd_0212222 h).2)
def nd_021222221 (h : narrow_1.before args s = true) := and_b ((nd_02122222 h).1)
def nd_0212222212 (h : narrow_1.before args s = true) := and_b ((nd_021222221 h).2)
def nd_021222222 (h : narrow_1.before args s = true) := and_b ((nd_02122222 h).2)
def nd_0212222222 (h : narrow_1.before args s = true) := and_b ((nd_021222222 h).2)
def nd_022 (h : narrow_1.before args s = true) := and_b ((nd_02 h).2)
def nd_0221 (h : narrow_1.before args s = true) := and_b ((nd_022 h).1)
def nd_02211 (h : narrow_1.before args s = true) := and_b ((nd_0221 h).1)
def nd_022111 (h : narrow_1.before args s = true) := and_b ((nd_02211 h).1)
def nd_0221111 (h : narrow_1.before args s = true) := and_b ((nd_022111 h).1)
def nd_02211111 (h : narrow_1.before args s = true) := and_b ((nd_0221111 h).1)
def nd_022111111 (h : narrow_1.before args s = true) := and_b ((nd_02211111 h).1)
def nd_022111112 (h : narrow_1.before args s = true) := and_b ((nd_02211111 h).2)
def nd_0221111122 (h : narrow_1.before args s = true) := and_b ((nd_022111112 h).2)
def nd_02211112 (h : narrow_1.before args s = true) := and_b ((nd_0221111 h).2)
def nd_022111121 (h : narrow_1.before args s = true) := and_b ((nd_02211112 h).1)
def nd_022111122 (h : narrow_1.before args s = true) := and_b ((nd_02211112 h).2)
def nd_0221111222 (h : narrow_1.before args s = true) := and_b ((nd_022111122 h).2)
def nd_0221112 (h : narrow_1.before args s = true) := and_b ((nd_022111 h).2)
def nd_02211121 (h : narrow_1.before args s = true) := and_b ((nd_0221112 h).1)
def nd_022111211 (h : narrow_1.before args s = true) := and_b ((nd_02211121 h).1)
def nd_022111212 (h : narrow_1.before args s = true) := and_b ((nd_02211121 h).2)
def nd_0221112122 (h : narrow_1.before args s = true) := and_b ((nd_022111212 h).2)
def nd_02211122 (h : narrow_1.before args s = true) := and_b ((nd_0221112 h).2)
def nd_022111221 (h : narrow_1.before args s = true) := and_b ((nd_02211122 h).1)
def nd_022111222 (h : narrow_1.before args s = true) := and_b ((nd_02211122 h).2)
def nd_0221112222 (h : narrow_1.before args s = true) := and_b ((nd_022111222 h).2)
def nd_022112 (h : narrow_1.before args s = true) := and_b ((nd_02211 h).2)
def nd_0221121 (h : narrow_1.before args s = true) := and_b ((nd_022112 h).1)
def nd_02211211 (h : narrow_1.before args s = true) := and_b ((nd_0221121 h).1)
def nd_022112111 (h : narrow_1.before args s = true) := and_b ((nd_02211211 h).1)
def nd_022112112 (h : narrow_1.before args s = true) := and_b ((nd_02211211 h).2)
def nd_0221121122 (h : narrow_1.before args s = true) := and_b ((nd_022112112 h).2)
def nd_02211212 (h : narrow_1.before args s = true) := and_b ((nd_0221121 h).2)
def nd_022112121 (h : narrow_1.before args s = true) := and_b ((nd_02211212 h).1)
def nd_022112122 (h : narrow_1.before args s = true) := and_b ((nd_02211212 h).2)
def nd_0221121222 (h : narrow_1.before args s = true) := and_b ((nd_022112122 h).2)
def nd_0221122 (h : narrow_1.before args s = true) := and_b ((nd_022112 h).2)
def nd_02211221 (h : narrow_1.before args s = true) := and_b ((nd_0221122 h).1)
def nd_022112211 (h : narrow_1.before args s = true) := and_b ((nd_02211221 h).1)
def nd_022112212 (h : narrow_1.before args s = true) := and_b ((nd_02211221 h).2)
def nd_0221122122 (h : narrow_1.before args s = true) := and_b ((nd_022112212 h).2)
def nd_02211222 (h : narrow_1.before args s = true) := and_b ((nd_0221122 h).2)
def nd_022112221 (h : narrow_1.before args s = true) := and_b ((nd_02211222 h).1)
def nd_022112222 (h : narrow_1.before args s = true) := and_b ((nd_02211222 h).2)
def nd_0221122222 (h : narrow_1.before args s = true) := and_b ((nd_022112222 h).2)
def nd_02212 (h : narrow_1.before args s = true) := and_b ((nd_0221 h).2)
def nd_022121 (h : narrow_1.before args s = true) := and_b ((nd_02212 h).1)
def nd_0221211 (h : narrow_1.before args s = true) := and_b ((nd_022121 h).1)
def nd_02212111 (h : narrow_1.before args s = true) := and_b ((nd_0221211 h).1)
def nd_022121111 (h : narrow_1.before args s = true) := and_b ((nd_02212111 h).1)
def nd_022121112 (h : narrow_1.before args s = true) := and_b ((nd_02212111 h).2)
def nd_0221211122 (h : narrow_1.before args s = true) := and_b ((nd_022121112 h).2)
def nd_02212112 (h : narrow_1.before args s = true) := and_b ((nd_0221211 h).2)
def nd_022121121 (h : narrow_1.before args s = true) := and_b ((nd_02212112 h).1)
def nd_022121122 (h : narrow_1.before args s = true) := and_b ((nd_02212112 h).2)
def nd_0221211222 (h : narrow_1.before args s = true) := and_b ((nd_022121122 h).2)
def nd_0221212 (h : narrow_1.before args s = true) := and_b ((nd_022121 h).2)
def nd_02212121 (h : narrow_1.before args s = true) := and_b ((nd_0221212 h).1)
def nd_022121211 (h : narrow_1.before args s = true) := and_b ((nd_02212121 h).1)
def nd_022121212 (h : narrow_1.before args s = true) := and_b ((nd_02212121 h).2)
def nd_0221212122 (h : narrow_1.before args s = true) := and_b ((nd_022121212 h).2)
def nd_02212122 (h : narrow_1.before args s = true) := and_b ((nd_0221212 h).2)
def nd_022121221 (h : narrow_1.before args s = true) := and_b ((nd_02212122 h).1)
def nd_022121222 (h : narrow_1.before args s = true) := and_b ((nd_02212122 h).2)
def nd_0221212222 (h : narrow_1.before args s = true) := and_b ((nd_022121222 h).2)
def nd_022122 (h : narrow_1.before args s = true) := and_b ((nd_02212 h).2)
def nd_0221221 (h : narrow_1.before args s = true) := and_b ((nd_022122 h).1)
def nd_02212211 (h : narrow_1.before args s = true) := and_b ((nd_0221221 h).1)
def nd_022122111 (h : narrow_1.before args s = true) := and_b ((nd_02212211 h).1)
def nd_022122112 (h : narrow_1.before args s = true) := and_b ((nd_02212211 h).2)
def nd_0221221122 (h : narrow_1.before args s = true) := and_b ((nd_022122112 h).2)
def nd_02212212 (h : narrow_1.before args s = true) := and_b ((nd_0221221 h).2)
def nd_022122121 (h : narrow_1.before args s = true) := and_b ((nd_02212212 h).1)
def nd_022122122 (h : narrow_1.before args s = true) := and_b ((nd_02212212 h).2)
def nd_0221221222 (h : narrow_1.before args s = true) := and_b ((nd_022122122 h).2)
def nd_0221222 (h : narrow_1.before args s = true) := and_b ((nd_022122 h).2)
def nd_02212221 (h : narrow_1.before args s = true) := and_b ((nd_0221222 h).1)
def nd_022122211 (h : narrow_1.before args s = true) := and_b ((nd_02212221 h).1)
def nd_022122212 (h : narrow_1.before args s = true) := and_b ((nd_02212221 h).2)
def nd_0221222122 (h : narrow_1.before args s = true) := and_b ((nd_022122212 h).2)
def nd_02212222 (h : narrow_1.before args s = true) := and_b ((nd_0221222 h).2)
def nd_022122221 (h : narrow_1.before args s = true) := and_b ((nd_02212222 h).1)
def nd_0221222212 (h : narrow_1.before args s = true) := and_b ((nd_022122221 h).2)
def nd_022122222 (h : narrow_1.before args s = true) := and_b ((nd_02212222 h).2)
def nd_0221222222 (h : narrow_1.before args s = true) := and_b ((nd_022122222 h).2)
def nd_0222 (h : narrow_1.before args s = true) := and_b ((nd_022 h).2)
def nd_02221 (h : narrow_1.before args s = true) := and_b ((nd_0222 h).1)
def nd_022211 (h : narrow_1.before args s = true) := and_b ((nd_02221 h).1)
def nd_0222111 (h : narrow_1.before args s = true) := and_b ((nd_022211 h).1)
def nd_02221111 (h : narrow_1.before args s = true) := and_b ((nd_0222111 h).1)
def nd_022211111 (h : narrow_1.before args s = true) := and_b ((nd_02221111 h).1)
def nd_022211112 (h : narrow_1.before args s = true) := and_b ((nd_02221111 h).2)
def nd_0222111122 (h : narrow_1.before args s = true) := and_b ((nd_022211112 h).2)
def nd_02221112 (h : narrow_1.before args s = true) := and_b ((nd_0222111 h).2)
def nd_022211121 (h : narrow_1.before args s = true) := and_b ((nd_02221112 h).1)
def nd_022211122 (h : narrow_1.before args s = true) := and_b ((nd_02221112 h).2)
def nd_0222111222 (h : narrow_1.before args s = true) := and_b ((nd_022211122 h).2)
def nd_0222112 (h : narrow_1.before args s = true) := and_b ((nd_022211 h).2)
def nd_02221121 (h : narrow_1.before args s = true) := and_b ((nd_0222112 h).1)
def nd_022211211 (h : narrow_1.before args s = true) := and_b ((nd_02221121 h).1)
def nd_022211212 (h : narrow_1.before args s = true) := and_b ((nd_02221121 h).2)
def nd_0222112122 (h : narrow_1.before args s = true) := and_b ((nd_022211212 h).2)
def nd_02221122 (h : narrow_1.before args s = true) := and_b ((nd_0222112 h).2)
def nd_022211221 (h : narrow_1.before args s = true) := and_b ((nd_02221122 h).1)
def nd_022211222 (h : narrow_1.before args s = true) := and_b ((nd_02221122 h).2)
def nd_0222112222 (h : narrow_1.before args s = true) := and_b ((nd_022211222 h).2)
def nd_022212 (h : narrow_1.before args s = true) := and_b ((nd_02221 h).2)
def nd_0222121 (h : narrow_1.before args s = true) := and_b ((nd_022212 h).1)
def nd_02221211 (h : narrow_1.before args s = true) := and_b ((nd_0222121 h).1)
def nd_022212111 (h : narrow_1.before args s = true) := and_b ((nd_02221211 h).1)
def nd_022212112 (h : narrow_1.before args s = true) := and_b ((nd_02221211 h).2)
def nd_0222121122 (h : narrow_1.before args s = true) := and_b ((nd_022212112 h).2)
def nd_02221212 (h : narrow_1.before args s = true) := and_b ((nd_0222121 h).2)
def nd_022212121 (h : narrow_1.before args s = true) := and_b ((nd_02221212 h).1)
def nd_022212122 (h : narrow_1.before args s = true) := and_b ((nd_02221212 h).2)
def nd_0222121222 (h : narrow_1.before args s = true) := and_b ((nd_022212122 h).2)
def nd_0222122 (h : narrow_1.before args s = true) := and_b ((nd_022212 h).2)
def nd_02221221 (h : narrow_1.before args s = true) := and_b ((nd_0222122 h).1)
def nd_022212211 (h : narrow_1.before args s = true) := and_b ((nd_02221221 h).1)
def nd_022212212 (h : narrow_1.before args s = true) := and_b ((nd_02221221 h).2)
def nd_0222122122 (h : narrow_1.before args s = true) := and_b ((nd_022212212 h).2)
def nd_02221222 (h : narrow_1.before args s = true) := and_b ((nd_0222122 h).2)
def nd_022212221 (h : narrow_1.before args s = true) := and_b ((nd_02221222 h).1)
def nd_0222122212 (h : narrow_1.before args s = true) := and_b ((nd_022212221 h).2)
def nd_022212222 (h : narrow_1.before args s = true) := and_b ((nd_02221222 h).2)
def nd_0222122222 (h : narrow_1.before args s = true) := and_b ((nd_022212222 h).2)
def nd_02222 (h : narrow_1.before args s = true) := and_b ((nd_0222 h).2)
def nd_022221 (h : narrow_1.before args s = true) := and_b ((nd_02222 h).1)
def nd_0222211 (h : narrow_1.before args s = true) := and_b ((nd_022221 h).1)
def nd_02222111 (h : narrow_1.before args s = true) := and_b ((nd_0222211 h).1)
def nd_022221111 (h : narrow_1.before args s = true) := and_b ((nd_02222111 h).1)
def nd_022221112 (h : narrow_1.before args s = true) := and_b ((nd_02222111 h).2)
def nd_0222211122 (h : narrow_1.before args s = true) := and_b ((nd_022221112 h).2)
def nd_02222112 (h : narrow_1.before args s = true) := and_b ((nd_0222211 h).2)
def nd_022221121 (h : narrow_1.before args s = true) := and_b ((nd_02222112 h).1)
def nd_022221122 (h : narrow_1.before args s = true) := and_b ((nd_02222112 h).2)
def nd_0222211222 (h : narrow_1.before args s = true) := and_b ((nd_022221122 h).2)
def nd_0222212 (h : narrow_1.before args s = true) := and_b ((nd_022221 h).2)
def nd_02222121 (h : narrow_1.before args s = true) := and_b ((nd_0222212 h).1)
def nd_022221211 (h : narrow_1.before args s = true) := and_b ((nd_02222121 h).1)
def nd_022221212 (h : narrow_1.before args s = true) := and_b ((nd_02222121 h).2)
def nd_0222212122 (h : narrow_1.before args s = true) := and_b ((nd_022221212 h).2)
def nd_02222122 (h : narrow_1.before args s = true) := and_b ((nd_0222212 h).2)
def nd_022221221 (h : narrow_1.before args s = true) := and_b ((nd_02222122 h).1)
def nd_022221222 (h : narrow_1.before args s = true) := and_b ((nd_02222122 h).2)
def nd_0222212222 (h : narrow_1.before args s = true) := and_b ((nd_022221222 h).2)
def nd_022222 (h : narrow_1.before args s = true) := and_b ((nd_02222 h).2)
def nd_0222221 (h : narrow_1.before args s = true) := and_b ((nd_022222 h).1)
def nd_02222211 (h : narrow_1.before args s = true) := and_b ((nd_0222221 h).1)
def nd_022222111 (h : narrow_1.before args s = true) := and_b ((nd_02222211 h).1)
def nd_022222112 (h : narrow_1.before args s = true) := and_b ((nd_02222211 h).2)
def nd_0222221122 (h : narrow_1.before args s = true) := and_b ((nd_022222112 h).2)
def nd_02222212 (h : narrow_1.before args s = true) := and_b ((nd_0222221 h).2)
def nd_022222121 (h : narrow_1.before args s = true) := and_b ((nd_02222212 h).1)
def nd_022222122 (h : narrow_1.before args s = true) := and_b ((nd_02222212 h).2)
def nd_0222221222 (h : narrow_1.before args s = true) := and_b ((nd_022222122 h).2)
def nd_0222222 (h : narrow_1.before args s = true) := and_b ((nd_022222 h).2)
def nd_02222221 (h : narrow_1.before args s = true) := and_b ((nd_0222222 h).1)
def nd_022222211 (h : narrow_1.before args s = true) := and_b ((nd_02222221 h).1)
def nd_022222212 (h : narrow_1.before args s = true) := and_b ((nd_02222221 h).2)
def nd_0222222122 (h : narrow_1.before args s = true) := and_b ((nd_022222212 h).2)
def nd_02222222 (h : narrow_1.before args s = true) := and_b ((nd_0222222 h).2)
def nd_022222221 (h : narrow_1.before args s = true) := and_b ((nd_02222222 h).1)
def nd_0222222212 (h : narrow_1.before args s = true) := and_b ((nd_022222221 h).2)
def nd_022222222 (h : narrow_1.before args s = true) := and_b ((nd_02222222 h).2)
def nd_0222222222 (h : narrow_1.before args s = true) := and_b ((nd_022222222 h).2)
def stm (i : Nat) : Term := Term.string (strL.getD i ("", 0, "")).1 (strL.getD i ("", 0, "")).2.1
set_option maxRecDepth 100000 in
theorem st_b0 (h : narrow_1.before args s = true) : ∀ j, j < lenL.getD 0 0 → (Cond.eq (.elem (.field (stm 0) "java/lang/String" "value" "[B") (.int (Int32.ofNat j))) (.int ((bytL.getD 0 []).getD j 0))).before args s = true := by
  show ∀ j, j < 30 → _
  exact lt_s (lt_s (lt_s (lt_s (lt_s (lt_s (lt_s (lt_s (lt_s (lt_s (lt_s (lt_s (lt_s (lt_s (lt_s (lt_s (lt_s (lt_s (lt_s (lt_s (lt_s (lt_s (lt_s (lt_s (lt_s (lt_s (lt_s (lt_s (lt_s (lt_s (lt_0) ((nd_011121111 h).2)) ((nd_011121112 h).1)) ((nd_0111211122 h).1)) ((nd_0111211122 h).2)) ((nd_011121121 h).1)) ((nd_011121121 h).2)) ((nd_011121122 h).1)) ((nd_0111211222 h).1)) ((nd_0111211222 h).2)) ((nd_011121211 h).1)) ((nd_011121211 h).2)) ((nd_011121212 h).1)) ((nd_0111212122 h).1)) ((nd_0111212122 h).2)) ((nd_011121221 h).1)) ((nd_011121221 h).2)) ((nd_011121222 h).1)) ((nd_0111212222 h).1)) ((nd_0111212222 h).2)) ((nd_011122111 h).1)) ((nd_011122111 h).2)) ((nd_011122112 h).1)) ((nd_0111221122 h).1)) ((nd_0111221122 h).2)) ((nd_011122121 h).1)) ((nd_011122121 h).2)) ((nd_011122122 h).1)) ((nd_0111221222 h).1)) ((nd_0111221222 h).2)) ((nd_011122211 h).1)
theorem st_a0 (h : narrow_1.before args s = true) : (Cond.exactly (stm 0) "java/lang/String").before args s = true ∧ (Cond.eq (.field (stm 0) "java/lang/String" "coder" "B") (.int 0)).before args s = true ∧ (Cond.arrayOf (.field (stm 0) "java/lang/String" "value" "[B") .byte).before args s = true ∧ (Cond.eq (.length (.field (stm 0) "java/lang/String" "value" "[B")) (.int (Int32.ofNat (lenL.getD 0 0)))).before args s = true := ⟨(nd_011112222 h).1, (nd_0111122222 h).1, (nd_0111122222 h).2, (nd_011121111 h).1⟩
set_option maxRecDepth 100000 in
theorem st_b1 (h : narrow_1.before args s = true) : ∀ j, j < lenL.getD 1 0 → (Cond.eq (.elem (.field (stm 1) "java/lang/String" "value" "[B") (.int (Int32.ofNat j))) (.int ((bytL.getD 1 []).getD j 0))).before args s = true := by
  show ∀ j, j < 117 → _
  exact lt_s (lt_s (lt_s (lt_s (lt_s (lt_s (lt_s (lt_s (lt_s (lt_s (lt_s (lt_s (lt_s (lt_s (lt_s (lt_s (lt_s (lt_s (lt_s (lt_s (lt_s (lt_s (lt_s (lt_s (lt_s (lt_s (lt_s (lt_s (lt_s (lt_s (lt_s (lt_s (lt_s (lt_s (lt_s (lt_s (lt_s (lt_s (lt_s (lt_s (lt_s (lt_s (lt_s (lt_s (lt_s (lt_s (lt_s (lt_s (lt_s (lt_s (lt_s (lt_s (lt_s (lt_s (lt_s (lt_s (lt_s (lt_s (lt_s (lt_s (lt_s (lt_s (lt_s (lt_s (lt_s (lt_s (lt_s (lt_s (lt_s (lt_s (lt_s (lt_s (lt_s (lt_s (lt_s (lt_s (lt_s (lt_s (lt_s (lt_s (lt_s (lt_s (lt_s (lt_s (lt_s (lt_s (lt_s (lt_s (lt_s (lt_s (lt_s (lt_s (lt_s (lt_s (lt_s (lt_s (lt_s (lt_s (lt_s (lt_s (lt_s (lt_s (lt_s (lt_s (lt_s (lt_s (lt_s (lt_s (lt_s (lt_s (lt_s (lt_s (lt_s (lt_s (lt_s (lt_s (lt_s (lt_0) ((nd_011122221 h).1)) ((nd_0111222212 h).1)) ((nd_0111222212 h).2)) ((nd_011122222 h).1)) ((nd_0111222222 h).1)) ((nd_0111222222 h).2)) ((nd_011211111 h).1)) ((nd_011211111 h).2)) ((nd_011211112 h).1)) ((nd_0112111122 h).1)) ((nd_0112111122 h).2)) ((nd_011211121 h).1)) ((nd_011211121 h).2)) ((nd_011211122 h).1)) ((nd_0112111222 h).1)) ((nd_0112111222 h).2)) ((nd_011211211 h).1)) ((nd_011211211 h).2)) ((nd_011211212 h).1)) ((nd_0112112122 h).1)) ((nd_0112112122 h).2)) ((nd_011211221 h).1)) ((nd_011211221 h).2)) ((nd_011211222 h).1)) ((nd_0112112222 h).1)) ((nd_0112112222 h).2)) ((nd_011212111 h).1)) ((nd_011212111 h).2)) ((nd_011212112 h).1)) ((nd_0112121122 h).1)) ((nd_0112121122 h).2)) ((nd_011212121 h).1)) ((nd_011212121 h).2)) ((nd_011212122 h).1)) ((nd_0112121222 h).1)) ((nd_0112121222 h).2)) ((nd_011212211 h).1)) ((nd_011212211 h).2)) ((nd_011212212 h).1)) ((nd_0112122122 h).1)) ((nd_0112122122 h).2)) ((nd_011212221 h).1)) ((nd_011212221 h).2)) ((nd_011212222 h).1)) ((nd_0112122222 h).1)) ((nd_0112122222 h).2)) ((nd_011221111 h).1)) ((nd_011221111 h).2)) ((nd_011221112 h).1)) ((nd_0112211122 h).1)) ((nd_0112211122 h).2)) ((nd_011221121 h).1)) ((nd_011221121 h).2)) ((nd_011221122 h).1)) ((nd_0112211222 h).1)) ((nd_0112211222 h).2)) ((nd_011221211 h).1)) ((nd_011221211 h).2)) ((nd_011221212 h).1)) ((nd_0112212122 h).1)) ((nd_0112212122 h).2)) ((nd_011221221 h).1)) ((nd_011221221 h).2)) ((nd_011221222 h).1)) ((nd_0112212222 h).1)) ((nd_0112212222 h).2)) ((nd_011222111 h).1)) ((nd_011222111 h).2)) ((nd_011222112 h).1)) ((nd_0112221122 h).1)) ((nd_0112221122 h).2)) ((nd_011222121 h).1)) ((nd_011222121 h).2)) ((nd_011222122 h).1)) ((nd_0112221222 h).1)) ((nd_0112221222 h).2)) ((nd_011222211 h).1)) ((nd_011222211 h).2)) ((nd_011222212 h).1)) ((nd_0112222122 h).1)) ((nd_0112222122 h).2)) ((nd_011222221 h).1)) ((nd_0112222212 h).1)) ((nd_0112222212 h).2)) ((nd_011222222 h).1)) ((nd_0112222222 h).1)) ((nd_0112222222 h).2)) ((nd_012111111 h).1)) ((nd_012111111 h).2)) ((nd_012111112 h).1)) ((nd_0121111122 h).1)) ((nd_0121111122 h).2)) ((nd_012111121 h).1)) ((nd_012111121 h).2)) ((nd_012111122 h).1)) ((nd_0121111222 h).1)) ((nd_0121111222 h).2)) ((nd_012111211 h).1)) ((nd_012111211 h).2)) ((nd_012111212 h).1)) ((nd_0121112122 h).1)) ((nd_0121112122 h).2)) ((nd_012111221 h).1)) ((nd_012111221 h).2)) ((nd_012111222 h).1)) ((nd_0121112222 h).1)) ((nd_0121112222 h).2)) ((nd_012112111 h).1)) ((nd_012112111 h).2)) ((nd_012112112 h).1)) ((nd_0121121122 h).1)) ((nd_0121121122 h).2)) ((nd_012112121 h).1)) ((nd_012112121 h).2)) ((nd_012112122 h).1)) ((nd_0121121222 h).1)) ((nd_0121121222 h).2)
theorem st_a1 (h : narrow_1.before args s = true) : (Cond.exactly (stm 1) "java/lang/String").before args s = true ∧ (Cond.eq (.field (stm 1) "java/lang/String" "coder" "B") (.int 0)).before args s = true ∧ (Cond.arrayOf (.field (stm 1) "java/lang/String" "value" "[B") .byte).before args s = true ∧ (Cond.eq (.length (.field (stm 1) "java/lang/String" "value" "[B")) (.int (Int32.ofNat (lenL.getD 1 0)))).before args s = true := ⟨(nd_011122211 h).2, (nd_011122212 h).1, (nd_0111222122 h).1, (nd_0111222122 h).2⟩
set_option maxRecDepth 100000 in
theorem st_b2 (h : narrow_1.before args s = true) : ∀ j, j < lenL.getD 2 0 → (Cond.eq (.elem (.field (stm 2) "java/lang/String" "value" "[B") (.int (Int32.ofNat j))) (.int ((bytL.getD 2 []).getD j 0))).before args s = true := by
  show ∀ j, j < 13 → _
  exact lt_s (lt_s (lt_s (lt_s (lt_s (lt_s (lt_s (lt_s (lt_s (lt_s (lt_s (lt_s (lt_s (lt_0) ((nd_0121122122 h).2)) ((nd_012112221 h).1)) ((nd_012112221 h).2)) ((nd_012112222 h).1)) ((nd_0121122222 h).1)) ((nd_0121122222 h).2)) ((nd_012121111 h).1)) ((nd_012121111 h).2)) ((nd_012121112 h).1)) ((nd_0121211122 h).1)) ((nd_0121211122 h).2)) ((nd_012121121 h).1)) ((nd_012121121 h).2)
theorem st_a2 (h : narrow_1.before args s = true) : (Cond.exactly (stm 2) "java/lang/String").before args s = true ∧ (Cond.eq (.field (stm 2) "java/lang/String" "coder" "B") (.int 0)).before args s = true ∧ (Cond.arrayOf (.field (stm 2) "java/lang/String" "value" "[B") .byte).before args s = true ∧ (Cond.eq (.length (.field (stm 2) "java/lang/String" "value" "[B")) (.int (Int32.ofNat (lenL.getD 2 0)))).before args s = true := ⟨(nd_012112211 h).1, (nd_012112211 h).2, (nd_012112212 h).1, (nd_0121122122 h).1⟩
set_option maxRecDepth 100000 in
theorem st_b3 (h : narrow_1.before args s = true) : ∀ j, j < lenL.getD 3 0 → (Cond.eq (.elem (.field (stm 3) "java/lang/String" "value" "[B") (.int (Int32.ofNat j))) (.int ((bytL.getD 3 []).getD j 0))).before args s = true := by
  show ∀ j, j < 12 → _
  exact lt_s (lt_s (lt_s (lt_s (lt_s (lt_s (lt_s (lt_s (lt_s (lt_s (lt_s (lt_s (lt_0) ((nd_012121211 h).2)) ((nd_012121212 h).1)) ((nd_0121212122 h).1)) ((nd_0121212122 h).2)) ((nd_012121221 h).1)) ((nd_012121221 h).2)) ((nd_012121222 h).1)) ((nd_0121212222 h).1)) ((nd_0121212222 h).2)) ((nd_012122111 h).1)) ((nd_012122111 h).2)) ((nd_012122112 h).1)
theorem st_a3 (h : narrow_1.before args s = true) : (Cond.exactly (stm 3) "java/lang/String").before args s = true ∧ (Cond.eq (.field (stm 3) "java/lang/String" "coder" "B") (.int 0)).before args s = true ∧ (Cond.arrayOf (.field (stm 3) "java/lang/String" "value" "[B") .byte).before args s = true ∧ (Cond.eq (.length (.field (stm 3) "java/lang/String" "value" "[B")) (.int (Int32.ofNat (lenL.getD 3 0)))).before args s = true := ⟨(nd_012121122 h).1, (nd_0121211222 h).1, (nd_0121211222 h).2, (nd_012121211 h).1⟩
set_option maxRecDepth 100000 in
theorem st_b4 (h : narrow_1.before args s = true) : ∀ j, j < lenL.getD 4 0 → (Cond.eq (.elem (.field (stm 4) "java/lang/String" "value" "[B") (.int (Int32.ofNat j))) (.int ((bytL.getD 4 []).getD j 0))).before args s = true := by
  show ∀ j, j < 23 → _
  exact lt_s (lt_s (lt_s (lt_s (lt_s (lt_s (lt_s (lt_s (lt_s (lt_s (lt_s (lt_s (lt_s (lt_s (lt_s (lt_s (lt_s (lt_s (lt_s (lt_s (lt_s (lt_s (lt_s (lt_0) ((nd_012122122 h).1)) ((nd_0121221222 h).1)) ((nd_0121221222 h).2)) ((nd_012122211 h).1)) ((nd_012122211 h).2)) ((nd_012122212 h).1)) ((nd_0121222122 h).1)) ((nd_0121222122 h).2)) ((nd_012122221 h).1)) ((nd_0121222212 h).1)) ((nd_0121222212 h).2)) ((nd_012122222 h).1)) ((nd_0121222222 h).1)) ((nd_0121222222 h).2)) ((nd_012211111 h).1)) ((nd_012211111 h).2)) ((nd_012211112 h).1)) ((nd_0122111122 h).1)) ((nd_0122111122 h).2)) ((nd_012211121 h).1)) ((nd_012211121 h).2)) ((nd_012211122 h).1)) ((nd_0122111222 h).1)
theorem st_a4 (h : narrow_1.before args s = true) : (Cond.exactly (stm 4) "java/lang/String").before args s = true ∧ (Cond.eq (.field (stm 4) "java/lang/String" "coder" "B") (.int 0)).before args s = true ∧ (Cond.arrayOf (.field (stm 4) "java/lang/String" "value" "[B") .byte).before args s = true ∧ (Cond.eq (.length (.field (stm 4) "java/lang/String" "value" "[B")) (.int (Int32.ofNat (lenL.getD 4 0)))).before args s = true := ⟨(nd_0121221122 h).1, (nd_0121221122 h).2, (nd_012122121 h).1, (nd_012122121 h).2⟩
set_option maxRecDepth 100000 in
theorem st_b5 (h : narrow_1.before args s = true) : ∀ j, j < lenL.getD 5 0 → (Cond.eq (.elem (.field (stm 5) "java/lang/String" "value" "[B") (.int (Int32.ofNat j))) (.int ((bytL.getD 5 []).getD j 0))).before args s = true := by
  show ∀ j, j < 13 → _
  exact lt_s (lt_s (lt_s (lt_s (lt_s (lt_s (lt_s (lt_s (lt_s (lt_s (lt_s (lt_s (lt_s (lt_0) ((nd_0122112122 h).1)) ((nd_0122112122 h).2)) ((nd_012211221 h).1)) ((nd_012211221 h).2)) ((nd_012211222 h).1)) ((nd_0122112222 h).1)) ((nd_0122112222 h).2)) ((nd_012212111 h).1)) ((nd_012212111 h).2)) ((nd_012212112 h).1)) ((nd_0122121122 h).1)) ((nd_0122121122 h).2)) ((nd_012212121 h).1)
theorem st_a5 (h : narrow_1.before args s = true) : (Cond.exactly (stm 5) "java/lang/String").before args s = true ∧ (Cond.eq (.field (stm 5) "java/lang/String" "coder" "B") (.int 0)).before args s = true ∧ (Cond.arrayOf (.field (stm 5) "java/lang/String" "value" "[B") .byte).before args s = true ∧ (Cond.eq (.length (.field (stm 5) "java/lang/String" "value" "[B")) (.int (Int32.ofNat (lenL.getD 5 0)))).before args s = true := ⟨(nd_0122111222 h).2, (nd_012211211 h).1, (nd_012211211 h).2, (nd_012211212 h).1⟩
set_option maxRecDepth 100000 in
theorem st_b6 (h : narrow_1.before args s = true) : ∀ j, j < lenL.getD 6 0 → (Cond.eq (.elem (.field (stm 6) "java/lang/String" "value" "[B") (.int (Int32.ofNat j))) (.int ((bytL.getD 6 []).getD j 0))).before args s = true := by
  show ∀ j, j < 25 → _
  exact lt_s (lt_s (lt_s (lt_s (lt_s (lt_s (lt_s (lt_s (lt_s (lt_s (lt_s (lt_s (lt_s (lt_s (lt_s (lt_s (lt_s (lt_s (lt_s (lt_s (lt_s (lt_s (lt_s (lt_s (lt_s (lt_0) ((nd_012212211 h).1)) ((nd_012212211 h).2)) ((nd_012212212 h).1)) ((nd_0122122122 h).1)) ((nd_0122122122 h).2)) ((nd_012212221 h).1)) ((nd_0122122212 h).1)) ((nd_0122122212 h).2)) ((nd_012212222 h).1)) ((nd_0122122222 h).1)) ((nd_0122122222 h).2)) ((nd_012221111 h).1)) ((nd_012221111 h).2)) ((nd_012221112 h).1)) ((nd_0122211122 h).1)) ((nd_0122211122 h).2)) ((nd_012221121 h).1)) ((nd_012221121 h).2)) ((nd_012221122 h).1)) ((nd_0122211222 h).1)) ((nd_0122211222 h).2)) ((nd_012221211 h).1)) ((nd_012221211 h).2)) ((nd_012221212 h).1)) ((nd_0122212122 h).1)
theorem st_a6 (h : narrow_1.before args s = true) : (Cond.exactly (stm 6) "java/lang/String").before args s = true ∧ (Cond.eq (.field (stm 6) "java/lang/String" "coder" "B") (.int 0)).before args s = true ∧ (Cond.arrayOf (.field (stm 6) "java/lang/String" "value" "[B") .byte).before args s = true ∧ (Cond.eq (.length (.field (stm 6) "java/lang/String" "value" "[B")) (.int (Int32.ofNat (lenL.getD 6 0)))).before args s = true := ⟨(nd_012212121 h).2, (nd_012212122 h).1, (nd_0122121222 h).1, (nd_0122121222 h).2⟩
set_option maxRecDepth 100000 in
theorem st_b7 (h : narrow_1.before args s = true) : ∀ j, j < lenL.getD 7 0 → (Cond.eq (.elem (.field (stm 7) "java/lang/String" "value" "[B") (.int (Int32.ofNat j))) (.int ((bytL.getD 7 []).getD j 0))).before args s = true := by
  show ∀ j, j < 19 → _
  exact lt_s (lt_s (lt_s (lt_s (lt_s (lt_s (lt_s (lt_s (lt_s (lt_s (lt_s (lt_s (lt_s (lt_s (lt_s (lt_s (lt_s (lt_s (lt_s (lt_0) ((nd_0122212222 h).1)) ((nd_0122212222 h).2)) ((nd_012222111 h).1)) ((nd_012222111 h).2)) ((nd_012222112 h).1)) ((nd_0122221122 h).1)) ((nd_0122221122 h).2)) ((nd_012222121 h).1)) ((nd_012222121 h).2)) ((nd_012222122 h).1)) ((nd_0122221222 h).1)) ((nd_0122221222 h).2)) ((nd_012222211 h).1)) ((nd_012222211 h).2)) ((nd_012222212 h).1)) ((nd_0122222122 h).1)) ((nd_0122222122 h).2)) ((nd_012222221 h).1)) ((nd_0122222212 h).1)
theorem st_a7 (h : narrow_1.before args s = true) : (Cond.exactly (stm 7) "java/lang/String").before args s = true ∧ (Cond.eq (.field (stm 7) "java/lang/String" "coder" "B") (.int 0)).before args s = true ∧ (Cond.arrayOf (.field (stm 7) "java/lang/String" "value" "[B") .byte).before args s = true ∧ (Cond.eq (.length (.field (stm 7) "java/lang/String" "value" "[B")) (.int (Int32.ofNat (lenL.getD 7 0)))).before args s = true := ⟨(nd_0122212122 h).2, (nd_012221221 h).1, (nd_012221221 h).2, (nd_012221222 h).1⟩
set_option maxRecDepth 100000 in
theorem st_b8 (h : narrow_1.before args s = true) : ∀ j, j < lenL.getD 8 0 → (Cond.eq (.elem (.field (stm 8) "java/lang/String" "value" "[B") (.int (Int32.ofNat j))) (.int ((bytL.getD 8 []).getD j 0))).before args s = true := by
  show ∀ j, j < 18 → _
  exact lt_s (lt_s (lt_s (lt_s (lt_s (lt_s (lt_s (lt_s (lt_s (lt_s (lt_s (lt_s (lt_s (lt_s (lt_s (lt_s (lt_s (lt_s (lt_0) ((nd_021111111 h).1)) ((nd_021111111 h).2)) ((nd_021111112 h).1)) ((nd_0211111122 h).1)) ((nd_0211111122 h).2)) ((nd_021111121 h).1)) ((nd_021111121 h).2)) ((nd_021111122 h).1)) ((nd_0211111222 h).1)) ((nd_0211111222 h).2)) ((nd_021111211 h).1)) ((nd_021111211 h).2)) ((nd_021111212 h).1)) ((nd_0211112122 h).1)) ((nd_0211112122 h).2)) ((nd_021111221 h).1)) ((nd_021111221 h).2)) ((nd_021111222 h).1)
theorem st_a8 (h : narrow_1.before args s = true) : (Cond.exactly (stm 8) "java/lang/String").before args s = true ∧ (Cond.eq (.field (stm 8) "java/lang/String" "coder" "B") (.int 0)).before args s = true ∧ (Cond.arrayOf (.field (stm 8) "java/lang/String" "value" "[B") .byte).before args s = true ∧ (Cond.eq (.length (.field (stm 8) "java/lang/String" "value" "[B")) (.int (Int32.ofNat (lenL.getD 8 0)))).before args s = true := ⟨(nd_0122222212 h).2, (nd_012222222 h).1, (nd_0122222222 h).1, (nd_0122222222 h).2⟩
set_option maxRecDepth 100000 in
theorem st_b9 (h : narrow_1.before args s = true) : ∀ j, j < lenL.getD 9 0 → (Cond.eq (.elem (.field (stm 9) "java/lang/String" "value" "[B") (.int (Int32.ofNat j))) (.int ((bytL.getD 9 []).getD j 0))).before args s = true := by
  show ∀ j, j < 14 → _
  exact lt_s (lt_s (lt_s (lt_s (lt_s (lt_s (lt_s (lt_s (lt_s (lt_s (lt_s (lt_s (lt_s (lt_s (lt_0) ((nd_021112112 h).1)) ((nd_0211121122 h).1)) ((nd_0211121122 h).2)) ((nd_021112121 h).1)) ((nd_021112121 h).2)) ((nd_021112122 h).1)) ((nd_0211121222 h).1)) ((nd_0211121222 h).2)) ((nd_021112211 h).1)) ((nd_021112211 h).2)) ((nd_021112212 h).1)) ((nd_0211122122 h).1)) ((nd_0211122122 h).2)) ((nd_021112221 h).1)
theorem st_a9 (h : narrow_1.before args s = true) : (Cond.exactly (stm 9) "java/lang/String").before args s = true ∧ (Cond.eq (.field (stm 9) "java/lang/String" "coder" "B") (.int 0)).before args s = true ∧ (Cond.arrayOf (.field (stm 9) "java/lang/String" "value" "[B") .byte).before args s = true ∧ (Cond.eq (.length (.field (stm 9) "java/lang/String" "value" "[B")) (.int (Int32.ofNat (lenL.getD 9 0)))).before args s = true := ⟨(nd_0211112222 h).1, (nd_0211112222 h).2, (nd_021112111 h).1, (nd_021112111 h).2⟩
set_option maxRecDepth 100000 in
theorem st_b10 (h : narrow_1.before args s = true) : ∀ j, j < lenL.getD 10 0 → (Cond.eq (.elem (.field (stm 10) "java/lang/String" "value" "[B") (.int (Int32.ofNat j))) (.int ((bytL.getD 10 []).getD j 0))).before args s = true := by
  show ∀ j, j < 24 → _
  exact lt_s (lt_s (lt_s (lt_s (lt_s (lt_s (lt_s (lt_s (lt_s (lt_s (lt_s (lt_s (lt_s (lt_s (lt_s (lt_s (lt_s (lt_s (lt_s (lt_s (lt_s (lt_s (lt_s (lt_s (lt_0) ((nd_021121111 h).1)) ((nd_021121111 h).2)) ((nd_021121112 h).1)) ((nd_0211211122 h).1)) ((nd_0211211122 h).2)) ((nd_021121121 h).1)) ((nd_021121121 h).2)) ((nd_021121122 h).1)) ((nd_0211211222 h).1)) ((nd_0211211222 h).2)) ((nd_021121211 h).1)) ((nd_021121211 h).2)) ((nd_021121212 h).1)) ((nd_0211212122 h).1)) ((nd_0211212122 h).2)) ((nd_021121221 h).1)) ((nd_021121221 h).2)) ((nd_021121222 h).1)) ((nd_0211212222 h).1)) ((nd_0211212222 h).2)) ((nd_021122111 h).1)) ((nd_021122111 h).2)) ((nd_021122112 h).1)) ((nd_0211221122 h).1)
theorem st_a10 (h : narrow_1.before args s = true) : (Cond.exactly (stm 10) "java/lang/String").before args s = true ∧ (Cond.eq (.field (stm 10) "java/lang/String" "coder" "B") (.int 0)).before args s = true ∧ (Cond.arrayOf (.field (stm 10) "java/lang/String" "value" "[B") .byte).before args s = true ∧ (Cond.eq (.length (.field (stm 10) "java/lang/String" "value" "[B")) (.int (Int32.ofNat (lenL.getD 10 0)))).before args s = true := ⟨(nd_021112221 h).2, (nd_021112222 h).1, (nd_0211122222 h).1, (nd_0211122222 h).2⟩
set_option maxRecDepth 100000 in
theorem st_b11 (h : narrow_1.before args s = true) : ∀ j, j < lenL.getD 11 0 → (Cond.eq (.elem (.field (stm 11) "java/lang/String" "value" "[B") (.int (Int32.ofNat j))) (.int ((bytL.getD 11 []).getD j 0))).before args s = true := by
  show ∀ j, j < 11 → _
  exact lt_s (lt_s (lt_s (lt_s (lt_s (lt_s (lt_s (lt_s (lt_s (lt_s (lt_s (lt_0) ((nd_0211221222 h).1)) ((nd_0211221222 h).2)) ((nd_021122211 h).1)) ((nd_021122211 h).2)) ((nd_021122212 h).1)) ((nd_0211222122 h).1)) ((nd_0211222122 h).2)) ((nd_021122221 h).1)) ((nd_0211222212 h).1)) ((nd_0211222212 h).2)) ((nd_021122222 h).1)
theorem st_a11 (h : narrow_1.before args s = true) : (Cond.exactly (stm 11) "java/lang/String").before args s = true ∧ (Cond.eq (.field (stm 11) "java/lang/String" "coder" "B") (.int 0)).before args s = true ∧ (Cond.arrayOf (.field (stm 11) "java/lang/String" "value" "[B") .byte).before args s = true ∧ (Cond.eq (.length (.field (stm 11) "java/lang/String" "value" "[B")) (.int (Int32.ofNat (lenL.getD 11 0)))).before args s = true := ⟨(nd_0211221122 h).2, (nd_021122121 h).1, (nd_021122121 h).2, (nd_021122122 h).1⟩
set_option maxRecDepth 100000 in
theorem st_b12 (h : narrow_1.before args s = true) : ∀ j, j < lenL.getD 12 0 → (Cond.eq (.elem (.field (stm 12) "java/lang/String" "value" "[B") (.int (Int32.ofNat j))) (.int ((bytL.getD 12 []).getD j 0))).before args s = true := by
  show ∀ j, j < 12 → _
  exact lt_s (lt_s (lt_s (lt_s (lt_s (lt_s (lt_s (lt_s (lt_s (lt_s (lt_s (lt_s (lt_0) ((nd_021211112 h).1)) ((nd_0212111122 h).1)) ((nd_0212111122 h).2)) ((nd_021211121 h).1)) ((nd_021211121 h).2)) ((nd_021211122 h).1)) ((nd_0212111222 h).1)) ((nd_0212111222 h).2)) ((nd_021211211 h).1)) ((nd_021211211 h).2)) ((nd_021211212 h).1)) ((nd_0212112122 h).1)
theorem st_a12 (h : narrow_1.before args s = true) : (Cond.exactly (stm 12) "java/lang/String").before args s = true ∧ (Cond.eq (.field (stm 12) "java/lang/String" "coder" "B") (.int 0)).before args s = true ∧ (Cond.arrayOf (.field (stm 12) "java/lang/String" "value" "[B") .byte).before args s = true ∧ (Cond.eq (.length (.field (stm 12) "java/lang/String" "value" "[B")) (.int (Int32.ofNat (lenL.getD 12 0)))).before args s = true := ⟨(nd_0211222222 h).1, (nd_0211222222 h).2, (nd_021211111 h).1, (nd_021211111 h).2⟩
set_option maxRecDepth 100000 in
theorem st_b13 (h : narrow_1.before args s = true) : ∀ j, j < lenL.getD 13 0 → (Cond.eq (.elem (.field (stm 13) "java/lang/String" "value" "[B") (.int (Int32.ofNat j))) (.int ((bytL.getD 13 []).getD j 0))).before args s = true := by
  show ∀ j, j < 17 → _
  exact lt_s (lt_s (lt_s (lt_s (lt_s (lt_s (lt_s (lt_s (lt_s (lt_s (lt_s (lt_s (lt_s (lt_s (lt_s (lt_s (lt_s (lt_0) ((nd_0212112222 h).1)) ((nd_0212112222 h).2)) ((nd_021212111 h).1)) ((nd_021212111 h).2)) ((nd_021212112 h).1)) ((nd_0212121122 h).1)) ((nd_0212121122 h).2)) ((nd_021212121 h).1)) ((nd_021212121 h).2)) ((nd_021212122 h).1)) ((nd_0212121222 h).1)) ((nd_0212121222 h).2)) ((nd_021212211 h).1)) ((nd_021212211 h).2)) ((nd_021212212 h).1)) ((nd_0212122122 h).1)) ((nd_0212122122 h).2)
theorem st_a13 (h : narrow_1.before args s = true) : (Cond.exactly (stm 13) "java/lang/String").before args s = true ∧ (Cond.eq (.field (stm 13) "java/lang/String" "coder" "B") (.int 0)).before args s = true ∧ (Cond.arrayOf (.field (stm 13) "java/lang/String" "value" "[B") .byte).before args s = true ∧ (Cond.eq (.length (.field (stm 13) "java/lang/String" "value" "[B")) (.int (Int32.ofNat (lenL.getD 13 0)))).before args s = true := ⟨(nd_0212112122 h).2, (nd_021211221 h).1, (nd_021211221 h).2, (nd_021211222 h).1⟩
set_option maxRecDepth 100000 in
theorem st_b14 (h : narrow_1.before args s = true) : ∀ j, j < lenL.getD 14 0 → (Cond.eq (.elem (.field (stm 14) "java/lang/String" "value" "[B") (.int (Int32.ofNat j))) (.int ((bytL.getD 14 []).getD j 0))).before args s = true := by
  show ∀ j, j < 17 → _
  exact lt_s (lt_s (lt_s (lt_s (lt_s (lt_s (lt_s (lt_s (lt_s (lt_s (lt_s (lt_s (lt_s (lt_s (lt_s (lt_s (lt_s (lt_0) ((nd_0212122222 h).1)) ((nd_0212122222 h).2)) ((nd_021221111 h).1)) ((nd_021221111 h).2)) ((nd_021221112 h).1)) ((nd_0212211122 h).1)) ((nd_0212211122 h).2)) ((nd_021221121 h).1)) ((nd_021221121 h).2)) ((nd_021221122 h).1)) ((nd_0212211222 h).1)) ((nd_0212211222 h).2)) ((nd_021221211 h).1)) ((nd_021221211 h).2)) ((nd_021221212 h).1)) ((nd_0212212122 h).1)) ((nd_0212212122 h).2)
theorem st_a14 (h : narrow_1.before args s = true) : (Cond.exactly (stm 14) "java/lang/String").before args s = true ∧ (Cond.eq (.field (stm 14) "java/lang/String" "coder" "B") (.int 0)).before args s = true ∧ (Cond.arrayOf (.field (stm 14) "java/lang/String" "value" "[B") .byte).before args s = true ∧ (Cond.eq (.length (.field (stm 14) "java/lang/String" "value" "[B")) (.int (Int32.ofNat (lenL.getD 14 0)))).before args s = true := ⟨(nd_021212221 h).1, (nd_0212122212 h).1, (nd_0212122212 h).2, (nd_021212222 h).1⟩
set_option maxRecDepth 100000 in
theorem st_b15 (h : narrow_1.before args s = true) : ∀ j, j < lenL.getD 15 0 → (Cond.eq (.elem (.field (stm 15) "java/lang/String" "value" "[B") (.int (Int32.ofNat j))) (.int ((bytL.getD 15 []).getD j 0))).before args s = true := by
  show ∀ j, j < 4 → _
  exact lt_s (lt_s (lt_s (lt_s (lt_0) ((nd_0212212222 h).2)) ((nd_021222111 h).1)) ((nd_021222111 h).2)) ((nd_021222112 h).1)
theorem st_a15 (h : narrow_1.before args s = true) : (Cond.exactly (stm 15) "java/lang/String").before args s = true ∧ (Cond.eq (.field (stm 15) "java/lang/String" "coder" "B") (.int 0)).before args s = true ∧ (Cond.arrayOf (.field (stm 15) "java/lang/String" "value" "[B") .byte).before args s = true ∧ (Cond.eq (.length (.field (stm 15) "java/lang/String" "value" "[B")) (.int (Int32.ofNat (lenL.getD 15 0)))).before args s = true := ⟨(nd_021221221 h).1, (nd_021221221 h).2, (nd_021221222 h).1, (nd_0212212222 h).1⟩
set_option maxRecDepth 100000 in
theorem st_b16 (h : narrow_1.before args s = true) : ∀ j, j < lenL.getD 16 0 → (Cond.eq (.elem (.field (stm 16) "java/lang/String" "value" "[B") (.int (Int32.ofNat j))) (.int ((bytL.getD 16 []).getD j 0))).before args s = true := by
  show ∀ j, j < 5 → _
  exact lt_s (lt_s (lt_s (lt_s (lt_s (lt_0) ((nd_021222122 h).1)) ((nd_0212221222 h).1)) ((nd_0212221222 h).2)) ((nd_021222211 h).1)) ((nd_021222211 h).2)
theorem st_a16 (h : narrow_1.before args s = true) : (Cond.exactly (stm 16) "java/lang/String").before args s = true ∧ (Cond.eq (.field (stm 16) "java/lang/String" "coder" "B") (.int 0)).before args s = true ∧ (Cond.arrayOf (.field (stm 16) "java/lang/String" "value" "[B") .byte).before args s = true ∧ (Cond.eq (.length (.field (stm 16) "java/lang/String" "value" "[B")) (.int (Int32.ofNat (lenL.getD 16 0)))).before args s = true := ⟨(nd_0212221122 h).1, (nd_0212221122 h).2, (nd_021222121 h).1, (nd_021222121 h).2⟩
set_option maxRecDepth 100000 in
theorem st_b17 (h : narrow_1.before args s = true) : ∀ j, j < lenL.getD 17 0 → (Cond.eq (.elem (.field (stm 17) "java/lang/String" "value" "[B") (.int (Int32.ofNat j))) (.int ((bytL.getD 17 []).getD j 0))).before args s = true := by
  show ∀ j, j < 4 → _
  exact lt_s (lt_s (lt_s (lt_s (lt_0) ((nd_0212222212 h).1)) ((nd_0212222212 h).2)) ((nd_021222222 h).1)) ((nd_0212222222 h).1)
theorem st_a17 (h : narrow_1.before args s = true) : (Cond.exactly (stm 17) "java/lang/String").before args s = true ∧ (Cond.eq (.field (stm 17) "java/lang/String" "coder" "B") (.int 0)).before args s = true ∧ (Cond.arrayOf (.field (stm 17) "java/lang/String" "value" "[B") .byte).before args s = true ∧ (Cond.eq (.length (.field (stm 17) "java/lang/String" "value" "[B")) (.int (Int32.ofNat (lenL.getD 17 0)))).before args s = true := ⟨(nd_021222212 h).1, (nd_0212222122 h).1, (nd_0212222122 h).2, (nd_021222221 h).1⟩
set_option maxRecDepth 100000 in
theorem st_b18 (h : narrow_1.before args s = true) : ∀ j, j < lenL.getD 18 0 → (Cond.eq (.elem (.field (stm 18) "java/lang/String" "value" "[B") (.int (Int32.ofNat j))) (.int ((bytL.getD 18 []).getD j 0))).before args s = true := by
  show ∀ j, j < 5 → _
  exact lt_s (lt_s (lt_s (lt_s (lt_s (lt_0) ((nd_0221111122 h).1)) ((nd_0221111122 h).2)) ((nd_022111121 h).1)) ((nd_022111121 h).2)) ((nd_022111122 h).1)
theorem st_a18 (h : narrow_1.before args s = true) : (Cond.exactly (stm 18) "java/lang/String").before args s = true ∧ (Cond.eq (.field (stm 18) "java/lang/String" "coder" "B") (.int 0)).before args s = true ∧ (Cond.arrayOf (.field (stm 18) "java/lang/String" "value" "[B") .byte).before args s = true ∧ (Cond.eq (.length (.field (stm 18) "java/lang/String" "value" "[B")) (.int (Int32.ofNat (lenL.getD 18 0)))).before args s = true := ⟨(nd_0212222222 h).2, (nd_022111111 h).1, (nd_022111111 h).2, (nd_022111112 h).1⟩
set_option maxRecDepth 100000 in
theorem st_b19 (h : narrow_1.before args s = true) : ∀ j, j < lenL.getD 19 0 → (Cond.eq (.elem (.field (stm 19) "java/lang/String" "value" "[B") (.int (Int32.ofNat j))) (.int ((bytL.getD 19 []).getD j 0))).before args s = true := by
  show ∀ j, j < 3 → _
  exact lt_s (lt_s (lt_s (lt_0) ((nd_022111212 h).1)) ((nd_0221112122 h).1)) ((nd_0221112122 h).2)
theorem st_a19 (h : narrow_1.before args s = true) : (Cond.exactly (stm 19) "java/lang/String").before args s = true ∧ (Cond.eq (.field (stm 19) "java/lang/String" "coder" "B") (.int 0)).before args s = true ∧ (Cond.arrayOf (.field (stm 19) "java/lang/String" "value" "[B") .byte).before args s = true ∧ (Cond.eq (.length (.field (stm 19) "java/lang/String" "value" "[B")) (.int (Int32.ofNat (lenL.getD 19 0)))).before args s = true := ⟨(nd_0221111222 h).1, (nd_0221111222 h).2, (nd_022111211 h).1, (nd_022111211 h).2⟩
set_option maxRecDepth 100000 in
theorem st_b20 (h : narrow_1.before args s = true) : ∀ j, j < lenL.getD 20 0 → (Cond.eq (.elem (.field (stm 20) "java/lang/String" "value" "[B") (.int (Int32.ofNat j))) (.int ((bytL.getD 20 []).getD j 0))).before args s = true := by
  show ∀ j, j < 4 → _
  exact lt_s (lt_s (lt_s (lt_s (lt_0) ((nd_0221112222 h).2)) ((nd_022112111 h).1)) ((nd_022112111 h).2)) ((nd_022112112 h).1)
theorem st_a20 (h : narrow_1.before args s = true) : (Cond.exactly (stm 20) "java/lang/String").before args s = true ∧ (Cond.eq (.field (stm 20) "java/lang/String" "coder" "B") (.int 0)).before args s = true ∧ (Cond.arrayOf (.field (stm 20) "java/lang/String" "value" "[B") .byte).before args s = true ∧ (Cond.eq (.length (.field (stm 20) "java/lang/String" "value" "[B")) (.int (Int32.ofNat (lenL.getD 20 0)))).before args s = true := ⟨(nd_022111221 h).1, (nd_022111221 h).2, (nd_022111222 h).1, (nd_0221112222 h).1⟩
set_option maxRecDepth 100000 in
theorem st_b21 (h : narrow_1.before args s = true) : ∀ j, j < lenL.getD 21 0 → (Cond.eq (.elem (.field (stm 21) "java/lang/String" "value" "[B") (.int (Int32.ofNat j))) (.int ((bytL.getD 21 []).getD j 0))).before args s = true := by
  show ∀ j, j < 5 → _
  exact lt_s (lt_s (lt_s (lt_s (lt_s (lt_0) ((nd_022112122 h).1)) ((nd_0221121222 h).1)) ((nd_0221121222 h).2)) ((nd_022112211 h).1)) ((nd_022112211 h).2)
theorem st_a21 (h : narrow_1.before args s = true) : (Cond.exactly (stm 21) "java/lang/String").before args s = true ∧ (Cond.eq (.field (stm 21) "java/lang/String" "coder" "B") (.int 0)).before args s = true ∧ (Cond.arrayOf (.field (stm 21) "java/lang/String" "value" "[B") .byte).before args s = true ∧ (Cond.eq (.length (.field (stm 21) "java/lang/String" "value" "[B")) (.int (Int32.ofNat (lenL.getD 21 0)))).before args s = true := ⟨(nd_0221121122 h).1, (nd_0221121122 h).2, (nd_022112121 h).1, (nd_022112121 h).2⟩
set_option maxRecDepth 100000 in
theorem st_b22 (h : narrow_1.before args s = true) : ∀ j, j < lenL.getD 22 0 → (Cond.eq (.elem (.field (stm 22) "java/lang/String" "value" "[B") (.int (Int32.ofNat j))) (.int ((bytL.getD 22 []).getD j 0))).before args s = true := by
  show ∀ j, j < 4 → _
  exact lt_s (lt_s (lt_s (lt_s (lt_0) ((nd_022112221 h).2)) ((nd_022112222 h).1)) ((nd_0221122222 h).1)) ((nd_0221122222 h).2)
theorem st_a22 (h : narrow_1.before args s = true) : (Cond.exactly (stm 22) "java/lang/String").before args s = true ∧ (Cond.eq (.field (stm 22) "java/lang/String" "coder" "B") (.int 0)).before args s = true ∧ (Cond.arrayOf (.field (stm 22) "java/lang/String" "value" "[B") .byte).before args s = true ∧ (Cond.eq (.length (.field (stm 22) "java/lang/String" "value" "[B")) (.int (Int32.ofNat (lenL.getD 22 0)))).before args s = true := ⟨(nd_022112212 h).1, (nd_0221122122 h).1, (nd_0221122122 h).2, (nd_022112221 h).1⟩
set_option maxRecDepth 100000 in
theorem st_b23 (h : narrow_1.before args s = true) : ∀ j, j < lenL.getD 23 0 → (Cond.eq (.elem (.field (stm 23) "java/lang/String" "value" "[B") (.int (Int32.ofNat j))) (.int ((bytL.getD 23 []).getD j 0))).before args s = true := by
  show ∀ j, j < 4 → _
  exact lt_s (lt_s (lt_s (lt_s (lt_0) ((nd_0221211122 h).2)) ((nd_022121121 h).1)) ((nd_022121121 h).2)) ((nd_022121122 h).1)
theorem st_a23 (h : narrow_1.before args s = true) : (Cond.exactly (stm 23) "java/lang/String").before args s = true ∧ (Cond.eq (.field (stm 23) "java/lang/String" "coder" "B") (.int 0)).before args s = true ∧ (Cond.arrayOf (.field (stm 23) "java/lang/String" "value" "[B") .byte).before args s = true ∧ (Cond.eq (.length (.field (stm 23) "java/lang/String" "value" "[B")) (.int (Int32.ofNat (lenL.getD 23 0)))).before args s = true := ⟨(nd_022121111 h).1, (nd_022121111 h).2, (nd_022121112 h).1, (nd_0221211122 h).1⟩
set_option maxRecDepth 100000 in
theorem st_b24 (h : narrow_1.before args s = true) : ∀ j, j < lenL.getD 24 0 → (Cond.eq (.elem (.field (stm 24) "java/lang/String" "value" "[B") (.int (Int32.ofNat j))) (.int ((bytL.getD 24 []).getD j 0))).before args s = true := by
  show ∀ j, j < 3 → _
  exact lt_s (lt_s (lt_s (lt_0) ((nd_022121212 h).1)) ((nd_0221212122 h).1)) ((nd_0221212122 h).2)
theorem st_a24 (h : narrow_1.before args s = true) : (Cond.exactly (stm 24) "java/lang/String").before args s = true ∧ (Cond.eq (.field (stm 24) "java/lang/String" "coder" "B") (.int 0)).before args s = true ∧ (Cond.arrayOf (.field (stm 24) "java/lang/String" "value" "[B") .byte).before args s = true ∧ (Cond.eq (.length (.field (stm 24) "java/lang/String" "value" "[B")) (.int (Int32.ofNat (lenL.getD 24 0)))).before args s = true := ⟨(nd_0221211222 h).1, (nd_0221211222 h).2, (nd_022121211 h).1, (nd_022121211 h).2⟩
set_option maxRecDepth 100000 in
theorem st_b25 (h : narrow_1.before args s = true) : ∀ j, j < lenL.getD 25 0 → (Cond.eq (.elem (.field (stm 25) "java/lang/String" "value" "[B") (.int (Int32.ofNat j))) (.int ((bytL.getD 25 []).getD j 0))).before args s = true := by
  show ∀ j, j < 5 → _
  exact lt_s (lt_s (lt_s (lt_s (lt_s (lt_0) ((nd_0221212222 h).2)) ((nd_022122111 h).1)) ((nd_022122111 h).2)) ((nd_022122112 h).1)) ((nd_0221221122 h).1)
theorem st_a25 (h : narrow_1.before args s = true) : (Cond.exactly (stm 25) "java/lang/String").before args s = true ∧ (Cond.eq (.field (stm 25) "java/lang/String" "coder" "B") (.int 0)).before args s = true ∧ (Cond.arrayOf (.field (stm 25) "java/lang/String" "value" "[B") .byte).before args s = true ∧ (Cond.eq (.length (.field (stm 25) "java/lang/String" "value" "[B")) (.int (Int32.ofNat (lenL.getD 25 0)))).before args s = true := ⟨(nd_022121221 h).1, (nd_022121221 h).2, (nd_022121222 h).1, (nd_0221212222 h).1⟩
set_option maxRecDepth 100000 in
theorem st_b26 (h : narrow_1.before args s = true) : ∀ j, j < lenL.getD 26 0 → (Cond.eq (.elem (.field (stm 26) "java/lang/String" "value" "[B") (.int (Int32.ofNat j))) (.int ((bytL.getD 26 []).getD j 0))).before args s = true := by
  show ∀ j, j < 3 → _
  exact lt_s (lt_s (lt_s (lt_0) ((nd_0221221222 h).1)) ((nd_0221221222 h).2)) ((nd_022122211 h).1)
theorem st_a26 (h : narrow_1.before args s = true) : (Cond.exactly (stm 26) "java/lang/String").before args s = true ∧ (Cond.eq (.field (stm 26) "java/lang/String" "coder" "B") (.int 0)).before args s = true ∧ (Cond.arrayOf (.field (stm 26) "java/lang/String" "value" "[B") .byte).before args s = true ∧ (Cond.eq (.length (.field (stm 26) "java/lang/String" "value" "[B")) (.int (Int32.ofNat (lenL.getD 26 0)))).before args s = true := ⟨(nd_0221221122 h).2, (nd_022122121 h).1, (nd_022122121 h).2, (nd_022122122 h).1⟩
set_option maxRecDepth 100000 in
theorem st_b27 (h : narrow_1.before args s = true) : ∀ j, j < lenL.getD 27 0 → (Cond.eq (.elem (.field (stm 27) "java/lang/String" "value" "[B") (.int (Int32.ofNat j))) (.int ((bytL.getD 27 []).getD j 0))).before args s = true := by
  show ∀ j, j < 4 → _
  exact lt_s (lt_s (lt_s (lt_s (lt_0) ((nd_022122221 h).1)) ((nd_0221222212 h).1)) ((nd_0221222212 h).2)) ((nd_022122222 h).1)
theorem st_a27 (h : narrow_1.before args s = true) : (Cond.exactly (stm 27) "java/lang/String").before args s = true ∧ (Cond.eq (.field (stm 27) "java/lang/String" "coder" "B") (.int 0)).before args s = true ∧ (Cond.arrayOf (.field (stm 27) "java/lang/String" "value" "[B") .byte).before args s = true ∧ (Cond.eq (.length (.field (stm 27) "java/lang/String" "value" "[B")) (.int (Int32.ofNat (lenL.getD 27 0)))).before args s = true := ⟨(nd_022122211 h).2, (nd_022122212 h).1, (nd_0221222122 h).1, (nd_0221222122 h).2⟩
set_option maxRecDepth 100000 in
theorem st_b28 (h : narrow_1.before args s = true) : ∀ j, j < lenL.getD 28 0 → (Cond.eq (.elem (.field (stm 28) "java/lang/String" "value" "[B") (.int (Int32.ofNat j))) (.int ((bytL.getD 28 []).getD j 0))).before args s = true := by
  show ∀ j, j < 3 → _
  exact lt_s (lt_s (lt_s (lt_0) ((nd_022211112 h).1)) ((nd_0222111122 h).1)) ((nd_0222111122 h).2)
theorem st_a28 (h : narrow_1.before args s = true) : (Cond.exactly (stm 28) "java/lang/String").before args s = true ∧ (Cond.eq (.field (stm 28) "java/lang/String" "coder" "B") (.int 0)).before args s = true ∧ (Cond.arrayOf (.field (stm 28) "java/lang/String" "value" "[B") .byte).before args s = true ∧ (Cond.eq (.length (.field (stm 28) "java/lang/String" "value" "[B")) (.int (Int32.ofNat (lenL.getD 28 0)))).before args s = true := ⟨(nd_0221222222 h).1, (nd_0221222222 h).2, (nd_022211111 h).1, (nd_022211111 h).2⟩
set_option maxRecDepth 100000 in
theorem st_b29 (h : narrow_1.before args s = true) : ∀ j, j < lenL.getD 29 0 → (Cond.eq (.elem (.field (stm 29) "java/lang/String" "value" "[B") (.int (Int32.ofNat j))) (.int ((bytL.getD 29 []).getD j 0))).before args s = true := by
  show ∀ j, j < 3 → _
  exact lt_s (lt_s (lt_s (lt_0) ((nd_0222111222 h).2)) ((nd_022211211 h).1)) ((nd_022211211 h).2)
theorem st_a29 (h : narrow_1.before args s = true) : (Cond.exactly (stm 29) "java/lang/String").before args s = true ∧ (Cond.eq (.field (stm 29) "java/lang/String" "coder" "B") (.int 0)).before args s = true ∧ (Cond.arrayOf (.field (stm 29) "java/lang/String" "value" "[B") .byte).before args s = true ∧ (Cond.eq (.length (.field (stm 29) "java/lang/String" "value" "[B")) (.int (Int32.ofNat (lenL.getD 29 0)))).before args s = true := ⟨(nd_022211121 h).1, (nd_022211121 h).2, (nd_022211122 h).1, (nd_0222111222 h).1⟩
set_option maxRecDepth 100000 in
theorem st_b30 (h : narrow_1.before args s = true) : ∀ j, j < lenL.getD 30 0 → (Cond.eq (.elem (.field (stm 30) "java/lang/String" "value" "[B") (.int (Int32.ofNat j))) (.int ((bytL.getD 30 []).getD j 0))).before args s = true := by
  show ∀ j, j < 4 → _
  exact lt_s (lt_s (lt_s (lt_s (lt_0) ((nd_022211221 h).2)) ((nd_022211222 h).1)) ((nd_0222112222 h).1)) ((nd_0222112222 h).2)
theorem st_a30 (h : narrow_1.before args s = true) : (Cond.exactly (stm 30) "java/lang/String").before args s = true ∧ (Cond.eq (.field (stm 30) "java/lang/String" "coder" "B") (.int 0)).before args s = true ∧ (Cond.arrayOf (.field (stm 30) "java/lang/String" "value" "[B") .byte).before args s = true ∧ (Cond.eq (.length (.field (stm 30) "java/lang/String" "value" "[B")) (.int (Int32.ofNat (lenL.getD 30 0)))).before args s = true := ⟨(nd_022211212 h).1, (nd_0222112122 h).1, (nd_0222112122 h).2, (nd_022211221 h).1⟩
set_option maxRecDepth 100000 in
theorem st_b31 (h : narrow_1.before args s = true) : ∀ j, j < lenL.getD 31 0 → (Cond.eq (.elem (.field (stm 31) "java/lang/String" "value" "[B") (.int (Int32.ofNat j))) (.int ((bytL.getD 31 []).getD j 0))).before args s = true := by
  show ∀ j, j < 5 → _
  exact lt_s (lt_s (lt_s (lt_s (lt_s (lt_0) ((nd_0222121122 h).2)) ((nd_022212121 h).1)) ((nd_022212121 h).2)) ((nd_022212122 h).1)) ((nd_0222121222 h).1)
theorem st_a31 (h : narrow_1.before args s = true) : (Cond.exactly (stm 31) "java/lang/String").before args s = true ∧ (Cond.eq (.field (stm 31) "java/lang/String" "coder" "B") (.int 0)).before args s = true ∧ (Cond.arrayOf (.field (stm 31) "java/lang/String" "value" "[B") .byte).before args s = true ∧ (Cond.eq (.length (.field (stm 31) "java/lang/String" "value" "[B")) (.int (Int32.ofNat (lenL.getD 31 0)))).before args s = true := ⟨(nd_022212111 h).1, (nd_022212111 h).2, (nd_022212112 h).1, (nd_0222121122 h).1⟩
set_option maxRecDepth 100000 in
theorem st_b32 (h : narrow_1.before args s = true) : ∀ j, j < lenL.getD 32 0 → (Cond.eq (.elem (.field (stm 32) "java/lang/String" "value" "[B") (.int (Int32.ofNat j))) (.int ((bytL.getD 32 []).getD j 0))).before args s = true := by
  show ∀ j, j < 5 → _
  exact lt_s (lt_s (lt_s (lt_s (lt_s (lt_0) ((nd_0222122122 h).1)) ((nd_0222122122 h).2)) ((nd_022212221 h).1)) ((nd_0222122212 h).1)) ((nd_0222122212 h).2)
theorem st_a32 (h : narrow_1.before args s = true) : (Cond.exactly (stm 32) "java/lang/String").before args s = true ∧ (Cond.eq (.field (stm 32) "java/lang/String" "coder" "B") (.int 0)).before args s = true ∧ (Cond.arrayOf (.field (stm 32) "java/lang/String" "value" "[B") .byte).before args s = true ∧ (Cond.eq (.length (.field (stm 32) "java/lang/String" "value" "[B")) (.int (Int32.ofNat (lenL.getD 32 0)))).before args s = true := ⟨(nd_0222121222 h).2, (nd_022212211 h).1, (nd_022212211 h).2, (nd_022212212 h).1⟩
set_option maxRecDepth 100000 in
theorem st_b33 (h : narrow_1.before args s = true) : ∀ j, j < lenL.getD 33 0 → (Cond.eq (.elem (.field (stm 33) "java/lang/String" "value" "[B") (.int (Int32.ofNat j))) (.int ((bytL.getD 33 []).getD j 0))).before args s = true := by
  show ∀ j, j < 3 → _
  exact lt_s (lt_s (lt_s (lt_0) ((nd_022221111 h).2)) ((nd_022221112 h).1)) ((nd_0222211122 h).1)
theorem st_a33 (h : narrow_1.before args s = true) : (Cond.exactly (stm 33) "java/lang/String").before args s = true ∧ (Cond.eq (.field (stm 33) "java/lang/String" "coder" "B") (.int 0)).before args s = true ∧ (Cond.arrayOf (.field (stm 33) "java/lang/String" "value" "[B") .byte).before args s = true ∧ (Cond.eq (.length (.field (stm 33) "java/lang/String" "value" "[B")) (.int (Int32.ofNat (lenL.getD 33 0)))).before args s = true := ⟨(nd_022212222 h).1, (nd_0222122222 h).1, (nd_0222122222 h).2, (nd_022221111 h).1⟩
set_option maxRecDepth 100000 in
theorem st_b34 (h : narrow_1.before args s = true) : ∀ j, j < lenL.getD 34 0 → (Cond.eq (.elem (.field (stm 34) "java/lang/String" "value" "[B") (.int (Int32.ofNat j))) (.int ((bytL.getD 34 []).getD j 0))).before args s = true := by
  show ∀ j, j < 3 → _
  exact lt_s (lt_s (lt_s (lt_0) ((nd_0222211222 h).1)) ((nd_0222211222 h).2)) ((nd_022221211 h).1)
theorem st_a34 (h : narrow_1.before args s = true) : (Cond.exactly (stm 34) "java/lang/String").before args s = true ∧ (Cond.eq (.field (stm 34) "java/lang/String" "coder" "B") (.int 0)).before args s = true ∧ (Cond.arrayOf (.field (stm 34) "java/lang/String" "value" "[B") .byte).before args s = true ∧ (Cond.eq (.length (.field (stm 34) "java/lang/String" "value" "[B")) (.int (Int32.ofNat (lenL.getD 34 0)))).before args s = true := ⟨(nd_0222211122 h).2, (nd_022221121 h).1, (nd_022221121 h).2, (nd_022221122 h).1⟩
set_option maxRecDepth 100000 in
theorem st_b35 (h : narrow_1.before args s = true) : ∀ j, j < lenL.getD 35 0 → (Cond.eq (.elem (.field (stm 35) "java/lang/String" "value" "[B") (.int (Int32.ofNat j))) (.int ((bytL.getD 35 []).getD j 0))).before args s = true := by
  show ∀ j, j < 2 → _
  exact lt_s (lt_s (lt_0) ((nd_022221221 h).1)) ((nd_022221221 h).2)
theorem st_a35 (h : narrow_1.before args s = true) : (Cond.exactly (stm 35) "java/lang/String").before args s = true ∧ (Cond.eq (.field (stm 35) "java/lang/String" "coder" "B") (.int 0)).before args s = true ∧ (Cond.arrayOf (.field (stm 35) "java/lang/String" "value" "[B") .byte).before args s = true ∧ (Cond.eq (.length (.field (stm 35) "java/lang/String" "value" "[B")) (.int (Int32.ofNat (lenL.getD 35 0)))).before args s = true := ⟨(nd_022221211 h).2, (nd_022221212 h).1, (nd_0222212122 h).1, (nd_0222212122 h).2⟩
set_option maxRecDepth 100000 in
theorem st_b36 (h : narrow_1.before args s = true) : ∀ j, j < lenL.getD 36 0 → (Cond.eq (.elem (.field (stm 36) "java/lang/String" "value" "[B") (.int (Int32.ofNat j))) (.int ((bytL.getD 36 []).getD j 0))).before args s = true := by
  show ∀ j, j < 4 → _
  exact lt_s (lt_s (lt_s (lt_s (lt_0) ((nd_022222111 h).2)) ((nd_022222112 h).1)) ((nd_0222221122 h).1)) ((nd_0222221122 h).2)
theorem st_a36 (h : narrow_1.before args s = true) : (Cond.exactly (stm 36) "java/lang/String").before args s = true ∧ (Cond.eq (.field (stm 36) "java/lang/String" "coder" "B") (.int 0)).before args s = true ∧ (Cond.arrayOf (.field (stm 36) "java/lang/String" "value" "[B") .byte).before args s = true ∧ (Cond.eq (.length (.field (stm 36) "java/lang/String" "value" "[B")) (.int (Int32.ofNat (lenL.getD 36 0)))).before args s = true := ⟨(nd_022221222 h).1, (nd_0222212222 h).1, (nd_0222212222 h).2, (nd_022222111 h).1⟩
set_option maxRecDepth 100000 in
theorem st_b37 (h : narrow_1.before args s = true) : ∀ j, j < lenL.getD 37 0 → (Cond.eq (.elem (.field (stm 37) "java/lang/String" "value" "[B") (.int (Int32.ofNat j))) (.int ((bytL.getD 37 []).getD j 0))).before args s = true := by
  show ∀ j, j < 4 → _
  exact lt_s (lt_s (lt_s (lt_s (lt_0) ((nd_0222221222 h).2)) ((nd_022222211 h).1)) ((nd_022222211 h).2)) ((nd_022222212 h).1)
theorem st_a37 (h : narrow_1.before args s = true) : (Cond.exactly (stm 37) "java/lang/String").before args s = true ∧ (Cond.eq (.field (stm 37) "java/lang/String" "coder" "B") (.int 0)).before args s = true ∧ (Cond.arrayOf (.field (stm 37) "java/lang/String" "value" "[B") .byte).before args s = true ∧ (Cond.eq (.length (.field (stm 37) "java/lang/String" "value" "[B")) (.int (Int32.ofNat (lenL.getD 37 0)))).before args s = true := ⟨(nd_022222121 h).1, (nd_022222121 h).2, (nd_022222122 h).1, (nd_0222221222 h).1⟩
set_option maxRecDepth 100000 in
theorem st_b38 (h : narrow_1.before args s = true) : ∀ j, j < lenL.getD 38 0 → (Cond.eq (.elem (.field (stm 38) "java/lang/String" "value" "[B") (.int (Int32.ofNat j))) (.int ((bytL.getD 38 []).getD j 0))).before args s = true := by
  show ∀ j, j < 4 → _
  exact lt_s (lt_s (lt_s (lt_s (lt_0) ((nd_0222222212 h).2)) ((nd_022222222 h).1)) ((nd_0222222222 h).1)) ((nd_0222222222 h).2)
theorem st_a38 (h : narrow_1.before args s = true) : (Cond.exactly (stm 38) "java/lang/String").before args s = true ∧ (Cond.eq (.field (stm 38) "java/lang/String" "coder" "B") (.int 0)).before args s = true ∧ (Cond.arrayOf (.field (stm 38) "java/lang/String" "value" "[B") .byte).before args s = true ∧ (Cond.eq (.length (.field (stm 38) "java/lang/String" "value" "[B")) (.int (Int32.ofNat (lenL.getD 38 0)))).before args s = true := ⟨(nd_0222222122 h).1, (nd_0222222122 h).2, (nd_022222221 h).1, (nd_0222222212 h).1⟩
theorem nar_s (h : narrow_1.before args s = true) : ∀ i, i < 39 → ((Cond.exactly (stm i) "java/lang/String").before args s = true ∧ (Cond.eq (.field (stm i) "java/lang/String" "coder" "B") (.int 0)).before args s = true ∧ (Cond.arrayOf (.field (stm i) "java/lang/String" "value" "[B") .byte).before args s = true ∧ (Cond.eq (.length (.field (stm i) "java/lang/String" "value" "[B")) (.int (Int32.ofNat (lenL.getD i 0)))).before args s = true) ∧ ∀ j, j < lenL.getD i 0 → (Cond.eq (.elem (.field (stm i) "java/lang/String" "value" "[B") (.int (Int32.ofNat j))) (.int ((bytL.getD i []).getD j 0))).before args s = true := by
  intro i hi
  match i, hi with
  | 0, _ => exact ⟨st_a0 h, st_b0 h⟩
  | 1, _ => exact ⟨st_a1 h, st_b1 h⟩
  | 2, _ => exact ⟨st_a2 h, st_b2 h⟩
  | 3, _ => exact ⟨st_a3 h, st_b3 h⟩
  | 4, _ => exact ⟨st_a4 h, st_b4 h⟩
  | 5, _ => exact ⟨st_a5 h, st_b5 h⟩
  | 6, _ => exact ⟨st_a6 h, st_b6 h⟩
  | 7, _ => exact ⟨st_a7 h, st_b7 h⟩
  | 8, _ => exact ⟨st_a8 h, st_b8 h⟩
  | 9, _ => exact ⟨st_a9 h, st_b9 h⟩
  | 10, _ => exact ⟨st_a10 h, st_b10 h⟩
  | 11, _ => exact ⟨st_a11 h, st_b11 h⟩
  | 12, _ => exact ⟨st_a12 h, st_b12 h⟩
  | 13, _ => exact ⟨st_a13 h, st_b13 h⟩
  | 14, _ => exact ⟨st_a14 h, st_b14 h⟩
  | 15, _ => exact ⟨st_a15 h, st_b15 h⟩
  | 16, _ => exact ⟨st_a16 h, st_b16 h⟩
  | 17, _ => exact ⟨st_a17 h, st_b17 h⟩
  | 18, _ => exact ⟨st_a18 h, st_b18 h⟩
  | 19, _ => exact ⟨st_a19 h, st_b19 h⟩
  | 20, _ => exact ⟨st_a20 h, st_b20 h⟩
  | 21, _ => exact ⟨st_a21 h, st_b21 h⟩
  | 22, _ => exact ⟨st_a22 h, st_b22 h⟩
  | 23, _ => exact ⟨st_a23 h, st_b23 h⟩
  | 24, _ => exact ⟨st_a24 h, st_b24 h⟩
  | 25, _ => exact ⟨st_a25 h, st_b25 h⟩
  | 26, _ => exact ⟨st_a26 h, st_b26 h⟩
  | 27, _ => exact ⟨st_a27 h, st_b27 h⟩
  | 28, _ => exact ⟨st_a28 h, st_b28 h⟩
  | 29, _ => exact ⟨st_a29 h, st_b29 h⟩
  | 30, _ => exact ⟨st_a30 h, st_b30 h⟩
  | 31, _ => exact ⟨st_a31 h, st_b31 h⟩
  | 32, _ => exact ⟨st_a32 h, st_b32 h⟩
  | 33, _ => exact ⟨st_a33 h, st_b33 h⟩
  | 34, _ => exact ⟨st_a34 h, st_b34 h⟩
  | 35, _ => exact ⟨st_a35 h, st_b35 h⟩
  | 36, _ => exact ⟨st_a36 h, st_b36 h⟩
  | 37, _ => exact ⟨st_a37 h, st_b37 h⟩
  | 38, _ => exact ⟨st_a38 h, st_b38 h⟩
  | i + 39, hi => exact absurd hi (by omega)
end Nar
theorem str_len : ∀ i, i < 39 → ∀ j, j < 39 → Int32.ofNat (lenL.getD i 0) = Int32.ofNat (lenL.getD j 0) → lenL.getD i 0 = lenL.getD j 0 := by decide +kernel
theorem str_inj : ∀ i, i < 39 → ∀ j, j < 39 → lenL.getD i 0 = lenL.getD j 0 → (∀ k, k < lenL.getD i 0 → (bytL.getD i []).getD k 0 = (bytL.getD j []).getD k 0) → i = j := by decide +kernel
theorem str_small : ∀ i, i < 39 → lenL.getD i 0 < 2 ^ 31 := by decide +kernel
theorem OF_same {o n d : String} {v v2 : Value} {t : Nat} {A : Nat → Prop} {U : State} {H : Heap} (h1 : va_OF o n d v t A U H) (h2 : va_OF o n d v2 t A U H) : v = v2 := by
  obtain ⟨cf, k, i, f, cell, a1, -, a2, -, a3, -⟩ := h1
  obtain ⟨cf', k', i', f', cell', b1, -, b2, -, b3, -⟩ := h2
  rw [a1] at b1
  cases b1
  rw [a2] at b2
  cases b2
  rw [a3] at b3
  exact Option.some.inj b3
theorem vk_mine {args : Array Value} {s : State} {A : Nat → Prop} (hA : ∀ a : Nat, a < s.heap.size → ¬ A a) (hn : narrow_1.before args s = true) : ∃ adK adV : Nat → Nat, vk_S 39 lenL bytL adK adV A s s.heap ∧ ∀ i : Nat, i < 39 → (stm i).eval args s none [] s = some (.ref (adK i)) := by
  have h0 : ∀ i : Nat, ∃ q : Nat × Nat, i < 39 → (stm i).eval args s none [] s = some (.ref q.1) ∧ va_O "java/lang/String" q.1 A s s.heap ∧ va_OF "java/lang/String" "coder" "B" (.int 0) q.1 A s s.heap ∧ va_OF "java/lang/String" "value" "[B" (.ref q.2) q.1 A s s.heap ∧ va_T .byte q.2 (lenL.getD i 0) (fun j => .int ((bytL.getD i []).getD j 0)) A s s.heap := by
    intro i
    by_cases hi : i < 39
    · obtain ⟨⟨n1, n2, n3, n4⟩, n5⟩ := nar_s hn i hi
      obtain ⟨aK, aV, hS, hE⟩ := vk_Sof (args := args) (s := s) (N := 1) (tm := fun _ => stm i) (len := [lenL.getD i 0]) (byt := [bytL.getD i []]) (A := A)
        (fun j hj => by have : j = 0 := by omega
                        subst this; exact str_small i hi)
        (fun _ _ => n1) (fun _ _ => n2) (fun _ _ => n3)
        (fun j hj => by have : j = 0 := by omega
                        subst this; exact n4)
        (fun j hj k hk => by have : j = 0 := by omega
                             subst this; exact n5 k hk)
        (fun j k hj hk hne => absurd (show j = k by omega) hne) hA
      exact ⟨(aK 0, aV 0), fun _ => ⟨hE 0 (by decide), hS.1 0 (by decide)⟩⟩
    · exact ⟨(0, 0), fun h => absurd h hi⟩
  obtain ⟨ad, had⟩ := Classical.axiomOfChoice h0
  refine ⟨fun i => (ad i).1, fun i => (ad i).2, ⟨fun i hi => (had i hi).2, fun i j hi hj e => ?_⟩, fun i hi => (had i hi).1⟩
  obtain ⟨-, -, -, v1, t1⟩ := had i hi
  obtain ⟨-, -, -, v2, t2⟩ := had j hj
  have e1 : (ad i).1 = (ad j).1 := e
  rw [e1] at v1
  have e2 : (ad i).2 = (ad j).2 := by
    have := OF_same v1 v2
    exact Value.ref.inj this
  rw [e2] at t1
  obtain ⟨c1, a1, -, -, -, a2, a3, -⟩ := t1
  obtain ⟨c2, b1, -, -, -, b2, b3, -⟩ := t2
  rw [a1] at b1
  cases b1
  have hl := str_len i hi j hj (a2.symm.trans b2)
  refine str_inj i hi j hj hl (fun k hk => ?_)
  have q1 := a3 k hk
  have q2 := b3 k (by rw [← hl]; exact hk)
  rw [q1] at q2
  have := Option.some.inj q2
  exact (Value.int.inj this)
theorem cu_all {s : State} {args : Array Value} (hts : ∀ w ∈ lwg, w.before args s = true) : ∀ c : Nat, ∃ q : ClassId × (Nat → Nat), c < 13 → u_Kn s (xC c) (xT c) (xN c) q.1 q.2 := by
  intro c
  by_cases hc : c < 13
  · match c, hc with
    | 0, _ => obtain ⟨a, b, h⟩ := u_known hts xin0 (hts _ wn_Acts); exact ⟨(a, b), fun _ => h⟩
    | 1, _ => obtain ⟨a, b, h⟩ := u_known hts xin1 (hts _ wn_Game); exact ⟨(a, b), fun _ => h⟩
    | 2, _ => obtain ⟨a, b, h⟩ := u_known hts xin2 (hts _ wn_Hair); exact ⟨(a, b), fun _ => h⟩
    | 3, _ => obtain ⟨a, b, h⟩ := u_known hts xin3 (hts _ wn_Image); exact ⟨(a, b), fun _ => h⟩
    | 4, _ => obtain ⟨a, b, h⟩ := u_known hts xin4 (hts _ wn_Keeping); exact ⟨(a, b), fun _ => h⟩
    | 5, _ => obtain ⟨a, b, h⟩ := u_known hts xin5 (hts _ wn_Laws); exact ⟨(a, b), fun _ => h⟩
    | 6, _ => obtain ⟨a, b, h⟩ := u_known hts xin6 (hts _ wn_Reader); exact ⟨(a, b), fun _ => h⟩
    | 7, _ => obtain ⟨a, b, h⟩ := u_known hts xin7 (hts _ wn_Roll); exact ⟨(a, b), fun _ => h⟩
    | 8, _ => obtain ⟨a, b, h⟩ := u_known hts xin8 (hts _ wn_Rule); exact ⟨(a, b), fun _ => h⟩
    | 9, _ => obtain ⟨a, b, h⟩ := u_known hts xin9 (hts _ wn_Season); exact ⟨(a, b), fun _ => h⟩
    | 10, _ => obtain ⟨a, b, h⟩ := u_known hts xin10 (hts _ wn_Seen); exact ⟨(a, b), fun _ => h⟩
    | 11, _ => obtain ⟨a, b, h⟩ := u_known hts xin11 (hts _ wn_Hall); exact ⟨(a, b), fun _ => h⟩
    | 12, _ => obtain ⟨a, b, h⟩ := u_known hts xin12 (hts _ wn_Model); exact ⟨(a, b), fun _ => h⟩
    | c + 13, h => exact absurd h (by omega)
  · exact ⟨(0, fun _ => 0), fun h => absurd h hc⟩
theorem xcl_of {k : Nat} {q : vw_C} (h : xcl[k]? = some q) : k < 13 ∧ q = (xC k, xT k, xN k) := by
  match k, h with
  | 0, h => cases h; exact ⟨by decide, rfl⟩
  | 1, h => cases h; exact ⟨by decide, rfl⟩
  | 2, h => cases h; exact ⟨by decide, rfl⟩
  | 3, h => cases h; exact ⟨by decide, rfl⟩
  | 4, h => cases h; exact ⟨by decide, rfl⟩
  | 5, h => cases h; exact ⟨by decide, rfl⟩
  | 6, h => cases h; exact ⟨by decide, rfl⟩
  | 7, h => cases h; exact ⟨by decide, rfl⟩
  | 8, h => cases h; exact ⟨by decide, rfl⟩
  | 9, h => cases h; exact ⟨by decide, rfl⟩
  | 10, h => cases h; exact ⟨by decide, rfl⟩
  | 11, h => cases h; exact ⟨by decide, rfl⟩
  | 12, h => cases h; exact ⟨by decide, rfl⟩
  | k + 13, h => simp [xcl] at h
theorem arr_of {s : State} {args : Array Value} {t : FieldType} (h : (Cond.arrayClass t).before args s = true) (ht : ∀ cA : ClassId, s.vm.findClass ("[" ++ t.toString) = some cA → va_RA s cA t) : ∃ cA : ClassId, ArrOfT s cA t ∧ va_RA s cA t := by
  obtain ⟨c, k, comp, h1, h2, h3⟩ := Cond.arrayClass_spec (args := args) (first := s) (o := none) (s := s) (idx := []) h
  exact ⟨c, fun n z => ⟨fun k h => (by cases h), k, h2, comp, h3⟩, ht c h1⟩
theorem arr_ofS {s : State} {args : Array Value} (h : (Cond.arrayOver (.object "java/lang/String")).before args s = true) : ∃ cA : ClassId, ArrOfT s cA (.object "java/lang/String") ∧ va_RA s cA (.object "java/lang/String") := by
  obtain ⟨comp, c, k, h1, h2, h3, h4, h5⟩ := Cond.arrayOver_spec (args := args) (first := s) (o := none) (s := s) (idx := []) h
  exact ⟨c, fun n z => ⟨fun k h => (by cases h), k, h3, comp, h4⟩, k, comp, h3, h4, h1, h5⟩
set_option maxRecDepth 100000 in
theorem sf_start {s : State} {b L : Nat} {xs : Nat → Int32} {l : Launch} (hl : l.stackTraces = false) (hts : ∀ w ∈ lw_tbl, w.before #[Value.ref b] s = true) (hX : va_X b L xs s s.heap) (hbl : b < s.heap.size) (hgv : (Jvm.Cond.and given_1 narrow_1).before #[Value.ref b] s = true) : ∃ γ : GG, gl γ = l ∧ gz γ = s.heap.size ∧ gS γ = (b, L, xs) ∧ SF γ s := by
  have h : narrow_1.before #[Value.ref b] s = true := (and_b hgv).2
  have hg : ∀ (args : Array Value), ∀ w ∈ lwg, w.before args s = true := fun args w hw => gw_at (args := #[Value.ref b]) (State.WarmedH.refl s) (List.mem_filter.mp hw).2 (hts w (List.mem_filter.mp hw).1)
  obtain ⟨f, hf⟩ := Classical.axiomOfChoice (cu_all (hg #[]))
  obtain ⟨c0, h0⟩ := arr_of (hg #[] _ wa_cls_int) (fun _ h => h)
  obtain ⟨c1, h1⟩ := arr_of (hg #[] _ wa_cls_byte) (fun _ h => h)
  obtain ⟨c2, h2⟩ := arr_of (hg #[] _ wa_cls_long) (fun _ h => h)
  obtain ⟨c3, h3⟩ := arr_ofS (hts _ ka_6_152.1)
  have hA : ∀ a : Nat, a < s.heap.size → ¬ (fun q : Nat => s.heap.size ≤ q) a := fun a h h9 => absurd h (Nat.not_lt.mpr h9)
  obtain ⟨aK, aV, hS, hE⟩ := vk_mine (A := fun q : Nat => s.heap.size ≤ q) hA h
  have hZ := va_Zqof (A := fun q : Nat => s.heap.size ≤ q) (hts _ ka_4_2.1) (hg #[Value.ref b] _ wi_jdk_internal_util_Preconditions) ((nd_011111121 h).1) hA
  obtain ⟨fm, hfm⟩ : ∃ fm : Nat, va_Z "jdk/internal/util/Preconditions" "SIOOBE_FORMATTER" "Ljava/util/function/BiFunction;" .null (fun q : Nat => s.heap.size ≤ q) s s.heap ∨ va_Z "jdk/internal/util/Preconditions" "SIOOBE_FORMATTER" "Ljava/util/function/BiFunction;" (.ref fm) (fun q : Nat => s.heap.size ≤ q) s s.heap := by
    rcases hZ with h | ⟨t, h⟩
    · exact ⟨0, Or.inl h⟩
    · exact ⟨t, Or.inr h⟩
  refine ⟨(l, s.heap.size, (fun c => (f c).1, fun c => (f c).2), fun k => match k with | 0 => c0 | 1 => c1 | 2 => c2 | _ => c3, aK, aV, (b, L, xs), fm), rfl, rfl, rfl, ?_⟩
  refine ⟨⟨fun c q hq => ?_, fun k q hk => ?_⟩, hg, ?_, ?_, hS, ?_, ?_, ?_, ?_, hX, Nat.le_refl _, hbl, hfm, ?_, hl⟩
  · obtain ⟨hc, rfl⟩ := xcl_of hq
    exact hf c hc
  · match k, hk with
    | 0, hk => cases hk; exact h0
    | 1, hk => cases hk; exact h1
    | 2, hk => cases hk; exact h2
    | 3, hk => cases hk; exact h3
    | k + 4, hk => simp [gtys] at hk
  · exact List.forall_mem_cons.mpr ⟨va_Nw.of rfl (hts _ ka_1_201.1), List.forall_mem_cons.mpr ⟨va_Nw.of rfl (hts _ ka_1_206.1), List.forall_mem_cons.mpr ⟨va_Nw.of rfl (hts _ ka_1_220.1), List.forall_mem_cons.mpr ⟨va_Nw.of rfl (hts _ ka_2_239.1), List.forall_mem_cons.mpr ⟨va_Nw.of rfl (hts _ ka_2_2.1), List.forall_mem_cons.mpr ⟨va_Nw.of rfl (hts _ ka_2_4.1), List.forall_mem_cons.mpr ⟨va_Nw.of rfl (hts _ ka_3_72.1), List.forall_mem_cons.mpr ⟨va_Nw.of rfl (hts _ ka_3_37.1), List.forall_mem_cons.mpr ⟨va_Nw.of rfl (hts _ ka_1_43.1), List.forall_mem_cons.mpr ⟨va_Nw.of rfl (hts _ ka_1_49.1), fun _ h => absurd h List.not_mem_nil⟩⟩⟩⟩⟩⟩⟩⟩⟩⟩
  · intro i q hq
    match i, hq with
    | 0, hq => cases hq; exact vk_R.of (hts _ ka_3_169.1) (hE 0 (by decide))
    | 1, hq => cases hq; exact vk_R.of (hts _ ka_3_216.1) (hE 1 (by decide))
    | 2, hq => cases hq; exact vk_R.of (hts _ ka_4_181.1) (hE 2 (by decide))
    | 3, hq => cases hq; exact vk_R.of (hts _ ka_4_199.1) (hE 3 (by decide))
    | 4, hq => cases hq; exact vk_R.of (hts _ ka_4_211.1) (hE 4 (by decide))
    | 5, hq => cases hq; exact vk_R.of (hts _ ka_4_223.1) (hE 5 (by decide))
    | 6, hq => cases hq; exact vk_R.of (hts _ ka_4_224.1) (hE 6 (by decide))
    | 7, hq => cases hq; exact vk_R.of (hts _ ka_5_115.1) (hE 7 (by decide))
    | 8, hq => cases hq; exact vk_R.of (hts _ ka_5_148.1) (hE 8 (by decide))
    | 9, hq => cases hq; exact vk_R.of (hts _ ka_5_184.1) (hE 9 (by decide))
    | 10, hq => cases hq; exact vk_R.of (hts _ ka_5_185.1) (hE 10 (by decide))
    | 11, hq => cases hq; exact vk_R.of (hts _ ka_5_207.1) (hE 11 (by decide))
    | 12, hq => cases hq; exact vk_R.of (hts _ ka_5_225.1) (hE 12 (by decide))
    | 13, hq => cases hq; exact vk_R.of (hts _ ka_6_25.1) (hE 13 (by decide))
    | 14, hq => cases hq; exact vk_R.of (hts _ ka_6_125.1) (hE 14 (by decide))
    | 15, hq => cases hq; exact vk_R.of (hts _ ka_6_153.1) (hE 15 (by decide))
    | 16, hq => cases hq; exact vk_R.of (hts _ ka_6_154.1) (hE 16 (by decide))
    | 17, hq => cases hq; exact vk_R.of (hts _ ka_6_155.1) (hE 17 (by decide))
    | 18, hq => cases hq; exact vk_R.of (hts _ ka_6_156.1) (hE 18 (by decide))
    | 19, hq => cases hq; exact vk_R.of (hts _ ka_6_157.1) (hE 19 (by decide))
    | 20, hq => cases hq; exact vk_R.of (hts _ ka_6_158.1) (hE 20 (by decide))
    | 21, hq => cases hq; exact vk_R.of (hts _ ka_6_159.1) (hE 21 (by decide))
    | 22, hq => cases hq; exact vk_R.of (hts _ ka_6_160.1) (hE 22 (by decide))
    | 23, hq => cases hq; exact vk_R.of (hts _ ka_6_161.1) (hE 23 (by decide))
    | 24, hq => cases hq; exact vk_R.of (hts _ ka_6_162.1) (hE 24 (by decide))
    | 25, hq => cases hq; exact vk_R.of (hts _ ka_6_163.1) (hE 25 (by decide))
    | 26, hq => cases hq; exact vk_R.of (hts _ ka_6_164.1) (hE 26 (by decide))
    | 27, hq => cases hq; exact vk_R.of (hts _ ka_6_165.1) (hE 27 (by decide))
    | 28, hq => cases hq; exact vk_R.of (hts _ ka_6_166.1) (hE 28 (by decide))
    | 29, hq => cases hq; exact vk_R.of (hts _ ka_6_167.1) (hE 29 (by decide))
    | 30, hq => cases hq; exact vk_R.of (hts _ ka_7_93.1) (hE 30 (by decide))
    | 31, hq => cases hq; exact vk_R.of (hts _ ka_7_100.1) (hE 31 (by decide))
    | 32, hq => cases hq; exact vk_R.of (hts _ ka_7_101.1) (hE 32 (by decide))
    | 33, hq => cases hq; exact vk_R.of (hts _ ka_7_134.1) (hE 33 (by decide))
    | 34, hq => cases hq; exact vk_R.of (hts _ ka_7_155.1) (hE 34 (by decide))
    | 35, hq => cases hq; exact vk_R.of (hts _ ka_7_156.1) (hE 35 (by decide))
    | 36, hq => cases hq; exact vk_R.of (hts _ ka_7_183.1) (hE 36 (by decide))
    | 37, hq => cases hq; exact vk_R.of (hts _ ka_7_184.1) (hE 37 (by decide))
    | 38, hq => cases hq; exact vk_R.of (hts _ ka_7_185.1) (hE 38 (by decide))
    | i + 39, hq => simp [strL] at hq
  · exact va_Zof (hts _ ka_3_226.1) (hg #[Value.ref b] _ wi_JString) (va_eqt ((nd_0111111122 h).2)) hA
  · exact vx_Zqof (hts _ ka_3_156.1) (hg #[Value.ref b] _ wi_java_lang_Throwable) ((nd_011111112 h).1) hA
  · exact vx_Zqof (hts _ ka_3_158.1) (hg #[Value.ref b] _ wi_java_lang_Throwable) ((nd_0111111122 h).1) hA
  · exact va_AO.of (hts _ ka_6_152.1)
  · exact va_Nc.of ((nd_011112221 h).2)
