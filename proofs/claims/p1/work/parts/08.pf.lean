def pf_street (n : Int32) : Int32 := if n < nI 0 ∨ nI 0 < n then -3 else nI 0
def pf_fault (w : Int32) : Int32 := if w = nI 0 then nI 0 else -1
def pf_minute (p s : Int32) : Int32 := if p = 0 ∧ s = 0 then nI 0 else -3
def pf_judge (row what : Int32) : Int32 := if (row < 0 ∨ nI 4 ≤ row) ∨ (what < nI 0 ∨ nI 4 < what) then -2 else -6
def pf_row (row : Int32) : Int32 := if row < 0 ∨ nI 4 ≤ row then -2 else -6
def pf_time (n : Int32) : Int32 := if n < nI 1 ∨ nI 200 < n then -3 else nI 0
def pf_day (n : Int32) : Int32 := if n < nI 1 ∨ nI 60 < n then -3 else nI 0
def pf_holds (row what : Int32) : Int32 := if (row < 0 ∨ nI 4 ≤ row) ∨ (what < nI 0 ∨ nI 1 < what) then -2 else -6
def pf_wave (len step : Int32) : Int32 := if (len < nI 1 ∨ nI 12 < len) ∨ (step < nI 0 ∨ len - nI 1 < step) then -3 else -1
def pf_bestWave (len : Int32) : Int32 := if len < nI 1 ∨ nI 12 < len then -3 else nI 0
def pf_bestRound (len what : Int32) : Int32 := if ¬ what = 0 then -2 else if len < nI 1 ∨ nI 10 < len then -3 else nI 0
def pf_peace (what : Int32) : Int32 := if what < nI 0 ∨ nI 1 < what then -2 else nI 0
def pf_selfish (k : Int32) : Int32 := if k = -1 then nI 1 else if k = nI 0 then nI 0 else -1
def pf_ropes (what : Int32) : Int32 := if ¬ what = 0 then -2 else -5
def pf_swapped (n what : Int32) : Int32 := if what < nI 0 ∨ nI 1 < what then -2 else if n < nI 1 ∨ nI 200 < n then -3 else if what = 0 then nI 0 else -1
def pf_numbers (row sort n : Int32) : Int32 := if (row < 0 ∨ nI 4 ≤ row) ∨ (sort < nI 0 ∨ nI 3 < sort) then -2 else if n < nI 0 ∨ nI 40 < n then -3 else nI 0
def pf_image (i : Int32) : Int32 := if i < 0 ∨ nI 2 ≤ i then -2 else nI 0
def pf_restore (i : Int32) : Int32 := if i < 0 ∨ nI 2 ≤ i then -2 else -5
def pf_count (w : Int32) : Int32 := if w = nI 0 ∨ w = nI 1 ∨ w = nI 2 ∨ w = nI 3 ∨ w = nI 4 ∨ w = nI 5 ∨ w = nI 6 ∨ w = nI 7 then nI 0 else if w = nI 8 then nI 20 else -1
