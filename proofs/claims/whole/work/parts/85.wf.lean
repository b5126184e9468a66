/-! what every call keeps of the value -/
theorem wfRow {S : sS} (hW : WF S) (r n : Int32) : WF (spRow S r n).2 := by
  unfold spRow
  repeat' (first | exact hW | split)
theorem wfAt {S : sS} (hW : WF S) (r i : Int32) : WF (spAt S r i).2 := by
  unfold spAt
  repeat' (first | exact hW | split)
theorem wfLay {S : sS} (hW : WF S) (r i v : Int32) : WF (spLay S r i v).2 := by
  unfold spLay
  repeat' (first | exact hW | split)
theorem wfTear {S : sS} (hW : WF S) (r : Int32) : WF (spTear S r).2 := by
  unfold spTear
  repeat' (first | exact hW | split)
theorem wfText {S : sS} (hW : WF S) (r n : Int32) : WF (spText S r n).2 := by
  unfold spText
  repeat' (first | exact hW | split)
theorem wfPut {S : sS} (hW : WF S) (r i v : Int32) : WF (spPut S r i v).2 := by
  unfold spPut
  repeat' (first | exact hW | split)
theorem wfMean {S : sS} (hW : WF S) (r : Int32) : WF (spMean S r).2 := by
  unfold spMean
  repeat' (first | exact hW | split)
theorem wfCopy {S : sS} (hW : WF S) (r i t j n : Int32) : WF (spCopy S r i t j n).2 := by
  unfold spCopy
  repeat' (first | exact hW | split)
theorem wfFault {S : sS} (hW : WF S) (t : Int32) : WF (spFault S t).2 := by
  unfold spFault
  repeat' (first | exact hW | split)
theorem wfUsual {S : sS} (hW : WF S) (l w p : Int32) : WF (spUsual S l w p).2 := by
  unfold spUsual
  repeat' (first | exact hW | split)
theorem wfAbout {S : sS} (hW : WF S) (p w : Int32) : WF (spAbout S p w).2 := by
  unfold spAbout
  repeat' (first | exact hW | split)
theorem wfDraws {S : sS} (hW : WF S) (p w r : Int32) : WF (spDraws S p w r).2 := by
  unfold spDraws
  repeat' (first | exact hW | split)
theorem wfGuess {S : sS} (hW : WF S) (p r v t : Int32) : WF (spGuess S p r v t).2 := by
  unfold spGuess
  repeat' (first | exact hW | split)
theorem wfStep {S : sS} (hW : WF S) (p q w r : Int32) : WF (spStep S p q w r).2 := by
  unfold spStep
  repeat' (first | exact hW | split)
theorem wfTold {S : sS} (hW : WF S) (e w : Int32) : WF (spTold S e w).2 := by
  unfold spTold
  repeat' (first | exact hW | split)
theorem wfCommon {S : sS} (hW : WF S) (w n : Int32) : WF (spCommon S w n).2 := by
  unfold spCommon
  repeat' (first | exact hW | split)
theorem wfLand {S : sS} (hW : WF S) (r : Int32) : WF (spLand S r).2 := by
  unfold spLand
  repeat' (first | exact hW | split)
theorem wfImage {S : sS} (hW : WF S) (r : Int32) : WF (spImage S r).2 := by
  unfold spImage
  repeat' (first | exact hW | split)
theorem wfMark {S : sS} (hW : WF S) (p k : Int32) : WF (spMark S p k).2 := by
  unfold spMark
  repeat' (first | exact hW | split)
theorem wfHand {S : sS} (hW : WF S) (p : Int32) : WF (spHand S p).2 := by
  unfold spHand
  repeat' (first | exact hW | split)
theorem wfGuesser {S : sS} (hW : WF S) (p : Int32) : WF (spGuesser S p).2 := by
  unfold spGuesser
  repeat' (first | exact hW | split)
theorem wfMachine {S : sS} (hW : WF S) (r : Int32) : WF (spMachine S r).2 := by
  unfold spMachine mcO
  repeat' (first | exact hW | split)
theorem wfHeld {S : sS} (hW : WF S) : WF (spHeld S).2 := by
  unfold spHeld
  repeat' (first | exact hW | split)
theorem wfSign {S : sS} (hW : WF S) (p q w n r : Int32) : WF (spSign S p q w n r).2 := by
  unfold spSign
  repeat' (first | exact hW | split)
theorem wfParts {S : sS} (hW : WF S) (p w n : Int32) : WF (spParts S p w n).2 := by
  unfold spParts ptR
  repeat' (first | exact hW | split)
theorem wfCount {S : sS} (hW : WF S) (w : Int32) : WF (spCount S w).2 := by
  unfold spCount
  repeat' (first | exact hW | split)
theorem wfComes {S : sS} (hW : WF S) (r w v : Int32) : WF (spComes S r w v).2 := by
  unfold spComes
  repeat' (first | exact hW | split)
theorem wfMost {S : sS} (hW : WF S) (r : Int32) : WF (spMost S r).2 := by
  unfold spMost moR
  repeat' (first | exact hW | split)
theorem wfKeeps {S : sS} (hW : WF S) (r a b : Int32) : WF (spKeeps S r a b).2 := by
  unfold spKeeps kpR
  repeat' (first | exact hW | split)
theorem wfWas {S : sS} (hW : WF S) (r v w : Int32) : WF (spWas S r v w).2 := by
  unfold spWas waR
  repeat' (first | exact hW | split)
theorem wfOff {S : sS} (hW : WF S) (r w v k : Int32) : WF (spOff S r w v k).2 := by
  unfold spOff ofR
  repeat' (first | exact hW | split)
theorem wfKept {S : sS} (hW : WF S) (r b : Int32) : WF (spKept S r b).2 := by
  unfold spKept ktR
  repeat' (first | exact hW | split)
theorem wfSeats {S : sS} (hW : WF S) (r b c : Int32) : WF (spSeats S r b c).2 := by
  unfold spSeats stO
  repeat' (first | exact hW | split)
theorem wfSoon {S : sS} (hW : WF S) (p w r c : Int32) : WF (spSoon S p w r c).2 := by
  unfold spSoon soO
  repeat' (first | exact hW | split)
theorem wfFindings {S : sS} (hW : WF S) (f : Int32) : WF (spFindings S f).2 := by
  unfold spFindings
  repeat' (first | exact hW | split)
theorem wf_stR {S : sS} (hW : WF S) {p q w o : Nat} : ∀ f i : Nat, WF (stR S p q w o f i).2 := by
  intro f
  induction f with
  | zero => intro i; exact hW
  | succ f ih =>
    intro i
    unfold stR
    split
    · exact ih _
    · exact hW
theorem wfStranger {S : sS} (hW : WF S) (p q w o : Int32) : WF (spStranger S p q w o).2 := by
  unfold spStranger
  split
  · exact hW
  · exact wf_stR hW _ _
theorem wf_fwO {S : sS} (hW : WF S) {p w s : Nat} : ∀ f n : Nat, WF (fwO S p w s f n).2 := by
  intro f
  induction f with
  | zero => intro n; exact hW
  | succ f ih =>
    intro n
    unfold fwO fwK
    split
    · exact ih _
    · exact hW
theorem wfFew {S : sS} (hW : WF S) (p w s : Int32) : WF (spFew S p w s).2 := by
  unfold spFew
  split
  · exact hW
  · exact wf_fwO hW _ _
