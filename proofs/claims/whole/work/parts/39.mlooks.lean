/-! THE PROGRAM, 20: the model's year -/
def f_X4_looksAt (c : MC) (k : Nat) : Int64 × MC := if (c.ai 9 k) = 0 then (if (c.ti 1) < (c.ai 12 k) then (0, c) else (if (c.aj 17 k) = 0 then (0, (f_X4_ends c k)) else (0, c))) else (if (c.ti 1) = (c.ai 12 k) then (if (c.aj 18 k) ≤ (((c.aj 17 k) + (((c.aj 17 k) * 500) / 10000)) + (f_X4_flow (c.paj 17 k ((c.aj 17 k) + (((c.aj 17 k) * 500) / 10000))) k (c.ti 1))) then (if (c.ai 22 (ix (c.ai 8 k))) = 0 then (if 0 ≤ (c.tj 2) then (if (c.tj 2) ≤ ((((c.aj 17 k) + (((c.aj 17 k) * 500) / 10000)) + (f_X4_flow (c.paj 17 k ((c.aj 17 k) + (((c.aj 17 k) * 500) / 10000))) k (c.ti 1))) - (c.aj 18 k)) then (if (c.ti 1) < (c.ai 12 k) then ((c.aj 18 k) + (c.tj 2), ((((((((c.paj 17 k ((c.aj 17 k) + (((c.aj 17 k) * 500) / 10000))).paj 17 k (((c.aj 17 k) + (((c.aj 17 k) * 500) / 10000)) + (f_X4_flow (c.paj 17 k ((c.aj 17 k) + (((c.aj 17 k) * 500) / 10000))) k (c.ti 1)))).paj 10 k 0).paj 18 k ((c.aj 18 k) - (c.aj 18 k))).paj 17 k ((((c.aj 17 k) + (((c.aj 17 k) * 500) / 10000)) + (f_X4_flow (c.paj 17 k ((c.aj 17 k) + (((c.aj 17 k) * 500) / 10000))) k (c.ti 1))) - (c.aj 18 k))).ptj 2 ((c.tj 2) - (c.tj 2))).paj 17 k (((((c.aj 17 k) + (((c.aj 17 k) * 500) / 10000)) + (f_X4_flow (c.paj 17 k ((c.aj 17 k) + (((c.aj 17 k) * 500) / 10000))) k (c.ti 1))) - (c.aj 18 k)) - (c.tj 2))).paj 19 k ((c.aj 19 k) + ((c.aj 18 k) + (c.tj 2))))) else (if (((((c.aj 17 k) + (((c.aj 17 k) * 500) / 10000)) + (f_X4_flow (c.paj 17 k ((c.aj 17 k) + (((c.aj 17 k) * 500) / 10000))) k (c.ti 1))) - (c.aj 18 k)) - (c.tj 2)) = 0 then ((c.aj 18 k) + (c.tj 2), (f_X4_ends ((((((((c.paj 17 k ((c.aj 17 k) + (((c.aj 17 k) * 500) / 10000))).paj 17 k (((c.aj 17 k) + (((c.aj 17 k) * 500) / 10000)) + (f_X4_flow (c.paj 17 k ((c.aj 17 k) + (((c.aj 17 k) * 500) / 10000))) k (c.ti 1)))).paj 10 k 0).paj 18 k ((c.aj 18 k) - (c.aj 18 k))).paj 17 k ((((c.aj 17 k) + (((c.aj 17 k) * 500) / 10000)) + (f_X4_flow (c.paj 17 k ((c.aj 17 k) + (((c.aj 17 k) * 500) / 10000))) k (c.ti 1))) - (c.aj 18 k))).ptj 2 ((c.tj 2) - (c.tj 2))).paj 17 k (((((c.aj 17 k) + (((c.aj 17 k) * 500) / 10000)) + (f_X4_flow (c.paj 17 k ((c.aj 17 k) + (((c.aj 17 k) * 500) / 10000))) k (c.ti 1))) - (c.aj 18 k)) - (c.tj 2))).paj 19 k ((c.aj 19 k) + ((c.aj 18 k) + (c.tj 2)))) k)) else ((c.aj 18 k) + (c.tj 2), ((((((((c.paj 17 k ((c.aj 17 k) + (((c.aj 17 k) * 500) / 10000))).paj 17 k (((c.aj 17 k) + (((c.aj 17 k) * 500) / 10000)) + (f_X4_flow (c.paj 17 k ((c.aj 17 k) + (((c.aj 17 k) * 500) / 10000))) k (c.ti 1)))).paj 10 k 0).paj 18 k ((c.aj 18 k) - (c.aj 18 k))).paj 17 k ((((c.aj 17 k) + (((c.aj 17 k) * 500) / 10000)) + (f_X4_flow (c.paj 17 k ((c.aj 17 k) + (((c.aj 17 k) * 500) / 10000))) k (c.ti 1))) - (c.aj 18 k))).ptj 2 ((c.tj 2) - (c.tj 2))).paj 17 k (((((c.aj 17 k) + (((c.aj 17 k) * 500) / 10000)) + (f_X4_flow (c.paj 17 k ((c.aj 17 k) + (((c.aj 17 k) * 500) / 10000))) k (c.ti 1))) - (c.aj 18 k)) - (c.tj 2))).paj 19 k ((c.aj 19 k) + ((c.aj 18 k) + (c.tj 2))))))) else (if (c.ti 1) < (c.ai 12 k) then ((c.aj 18 k) + ((((c.aj 17 k) + (((c.aj 17 k) * 500) / 10000)) + (f_X4_flow (c.paj 17 k ((c.aj 17 k) + (((c.aj 17 k) * 500) / 10000))) k (c.ti 1))) - (c.aj 18 k)), ((((((((c.paj 17 k ((c.aj 17 k) + (((c.aj 17 k) * 500) / 10000))).paj 17 k (((c.aj 17 k) + (((c.aj 17 k) * 500) / 10000)) + (f_X4_flow (c.paj 17 k ((c.aj 17 k) + (((c.aj 17 k) * 500) / 10000))) k (c.ti 1)))).paj 10 k 0).paj 18 k ((c.aj 18 k) - (c.aj 18 k))).paj 17 k ((((c.aj 17 k) + (((c.aj 17 k) * 500) / 10000)) + (f_X4_flow (c.paj 17 k ((c.aj 17 k) + (((c.aj 17 k) * 500) / 10000))) k (c.ti 1))) - (c.aj 18 k))).ptj 2 ((c.tj 2) - ((((c.aj 17 k) + (((c.aj 17 k) * 500) / 10000)) + (f_X4_flow (c.paj 17 k ((c.aj 17 k) + (((c.aj 17 k) * 500) / 10000))) k (c.ti 1))) - (c.aj 18 k)))).paj 17 k (((((c.aj 17 k) + (((c.aj 17 k) * 500) / 10000)) + (f_X4_flow (c.paj 17 k ((c.aj 17 k) + (((c.aj 17 k) * 500) / 10000))) k (c.ti 1))) - (c.aj 18 k)) - ((((c.aj 17 k) + (((c.aj 17 k) * 500) / 10000)) + (f_X4_flow (c.paj 17 k ((c.aj 17 k) + (((c.aj 17 k) * 500) / 10000))) k (c.ti 1))) - (c.aj 18 k)))).paj 19 k ((c.aj 19 k) + ((c.aj 18 k) + ((((c.aj 17 k) + (((c.aj 17 k) * 500) / 10000)) + (f_X4_flow (c.paj 17 k ((c.aj 17 k) + (((c.aj 17 k) * 500) / 10000))) k (c.ti 1))) - (c.aj 18 k)))))) else (if (((((c.aj 17 k) + (((c.aj 17 k) * 500) / 10000)) + (f_X4_flow (c.paj 17 k ((c.aj 17 k) + (((c.aj 17 k) * 500) / 10000))) k (c.ti 1))) - (c.aj 18 k)) - ((((c.aj 17 k) + (((c.aj 17 k) * 500) / 10000)) + (f_X4_flow (c.paj 17 k ((c.aj 17 k) + (((c.aj 17 k) * 500) / 10000))) k (c.ti 1))) - (c.aj 18 k))) = 0 then ((c.aj 18 k) + ((((c.aj 17 k) + (((c.aj 17 k) * 500) / 10000)) + (f_X4_flow (c.paj 17 k ((c.aj 17 k) + (((c.aj 17 k) * 500) / 10000))) k (c.ti 1))) - (c.aj 18 k)), (f_X4_ends ((((((((c.paj 17 k ((c.aj 17 k) + (((c.aj 17 k) * 500) / 10000))).paj 17 k (((c.aj 17 k) + (((c.aj 17 k) * 500) / 10000)) + (f_X4_flow (c.paj 17 k ((c.aj 17 k) + (((c.aj 17 k) * 500) / 10000))) k (c.ti 1)))).paj 10 k 0).paj 18 k ((c.aj 18 k) - (c.aj 18 k))).paj 17 k ((((c.aj 17 k) + (((c.aj 17 k) * 500) / 10000)) + (f_X4_flow (c.paj 17 k ((c.aj 17 k) + (((c.aj 17 k) * 500) / 10000))) k (c.ti 1))) - (c.aj 18 k))).ptj 2 ((c.tj 2) - ((((c.aj 17 k) + (((c.aj 17 k) * 500) / 10000)) + (f_X4_flow (c.paj 17 k ((c.aj 17 k) + (((c.aj 17 k) * 500) / 10000))) k (c.ti 1))) - (c.aj 18 k)))).paj 17 k (((((c.aj 17 k) + (((c.aj 17 k) * 500) / 10000)) + (f_X4_flow (c.paj 17 k ((c.aj 17 k) + (((c.aj 17 k) * 500) / 10000))) k (c.ti 1))) - (c.aj 18 k)) - ((((c.aj 17 k) + (((c.aj 17 k) * 500) / 10000)) + (f_X4_flow (c.paj 17 k ((c.aj 17 k) + (((c.aj 17 k) * 500) / 10000))) k (c.ti 1))) - (c.aj 18 k)))).paj 19 k ((c.aj 19 k) + ((c.aj 18 k) + ((((c.aj 17 k) + (((c.aj 17 k) * 500) / 10000)) + (f_X4_flow (c.paj 17 k ((c.aj 17 k) + (((c.aj 17 k) * 500) / 10000))) k (c.ti 1))) - (c.aj 18 k))))) k)) else ((c.aj 18 k) + ((((c.aj 17 k) + (((c.aj 17 k) * 500) / 10000)) + (f_X4_flow (c.paj 17 k ((c.aj 17 k) + (((c.aj 17 k) * 500) / 10000))) k (c.ti 1))) - (c.aj 18 k)), ((((((((c.paj 17 k ((c.aj 17 k) + (((c.aj 17 k) * 500) / 10000))).paj 17 k (((c.aj 17 k) + (((c.aj 17 k) * 500) / 10000)) + (f_X4_flow (c.paj 17 k ((c.aj 17 k) + (((c.aj 17 k) * 500) / 10000))) k (c.ti 1)))).paj 10 k 0).paj 18 k ((c.aj 18 k) - (c.aj 18 k))).paj 17 k ((((c.aj 17 k) + (((c.aj 17 k) * 500) / 10000)) + (f_X4_flow (c.paj 17 k ((c.aj 17 k) + (((c.aj 17 k) * 500) / 10000))) k (c.ti 1))) - (c.aj 18 k))).ptj 2 ((c.tj 2) - ((((c.aj 17 k) + (((c.aj 17 k) * 500) / 10000)) + (f_X4_flow (c.paj 17 k ((c.aj 17 k) + (((c.aj 17 k) * 500) / 10000))) k (c.ti 1))) - (c.aj 18 k)))).paj 17 k (((((c.aj 17 k) + (((c.aj 17 k) * 500) / 10000)) + (f_X4_flow (c.paj 17 k ((c.aj 17 k) + (((c.aj 17 k) * 500) / 10000))) k (c.ti 1))) - (c.aj 18 k)) - ((((c.aj 17 k) + (((c.aj 17 k) * 500) / 10000)) + (f_X4_flow (c.paj 17 k ((c.aj 17 k) + (((c.aj 17 k) * 500) / 10000))) k (c.ti 1))) - (c.aj 18 k)))).paj 19 k ((c.aj 19 k) + ((c.aj 18 k) + ((((c.aj 17 k) + (((c.aj 17 k) * 500) / 10000)) + (f_X4_flow (c.paj 17 k ((c.aj 17 k) + (((c.aj 17 k) * 500) / 10000))) k (c.ti 1))) - (c.aj 18 k))))))))) else (if (c.ti 1) < (c.ai 12 k) then ((c.aj 18 k) + 0, ((((((((c.paj 17 k ((c.aj 17 k) + (((c.aj 17 k) * 500) / 10000))).paj 17 k (((c.aj 17 k) + (((c.aj 17 k) * 500) / 10000)) + (f_X4_flow (c.paj 17 k ((c.aj 17 k) + (((c.aj 17 k) * 500) / 10000))) k (c.ti 1)))).paj 10 k 0).paj 18 k ((c.aj 18 k) - (c.aj 18 k))).paj 17 k ((((c.aj 17 k) + (((c.aj 17 k) * 500) / 10000)) + (f_X4_flow (c.paj 17 k ((c.aj 17 k) + (((c.aj 17 k) * 500) / 10000))) k (c.ti 1))) - (c.aj 18 k))).ptj 2 ((c.tj 2) - 0)).paj 17 k (((((c.aj 17 k) + (((c.aj 17 k) * 500) / 10000)) + (f_X4_flow (c.paj 17 k ((c.aj 17 k) + (((c.aj 17 k) * 500) / 10000))) k (c.ti 1))) - (c.aj 18 k)) - 0)).paj 19 k ((c.aj 19 k) + ((c.aj 18 k) + 0)))) else (if (((((c.aj 17 k) + (((c.aj 17 k) * 500) / 10000)) + (f_X4_flow (c.paj 17 k ((c.aj 17 k) + (((c.aj 17 k) * 500) / 10000))) k (c.ti 1))) - (c.aj 18 k)) - 0) = 0 then ((c.aj 18 k) + 0, (f_X4_ends ((((((((c.paj 17 k ((c.aj 17 k) + (((c.aj 17 k) * 500) / 10000))).paj 17 k (((c.aj 17 k) + (((c.aj 17 k) * 500) / 10000)) + (f_X4_flow (c.paj 17 k ((c.aj 17 k) + (((c.aj 17 k) * 500) / 10000))) k (c.ti 1)))).paj 10 k 0).paj 18 k ((c.aj 18 k) - (c.aj 18 k))).paj 17 k ((((c.aj 17 k) + (((c.aj 17 k) * 500) / 10000)) + (f_X4_flow (c.paj 17 k ((c.aj 17 k) + (((c.aj 17 k) * 500) / 10000))) k (c.ti 1))) - (c.aj 18 k))).ptj 2 ((c.tj 2) - 0)).paj 17 k (((((c.aj 17 k) + (((c.aj 17 k) * 500) / 10000)) + (f_X4_flow (c.paj 17 k ((c.aj 17 k) + (((c.aj 17 k) * 500) / 10000))) k (c.ti 1))) - (c.aj 18 k)) - 0)).paj 19 k ((c.aj 19 k) + ((c.aj 18 k) + 0))) k)) else ((c.aj 18 k) + 0, ((((((((c.paj 17 k ((c.aj 17 k) + (((c.aj 17 k) * 500) / 10000))).paj 17 k (((c.aj 17 k) + (((c.aj 17 k) * 500) / 10000)) + (f_X4_flow (c.paj 17 k ((c.aj 17 k) + (((c.aj 17 k) * 500) / 10000))) k (c.ti 1)))).paj 10 k 0).paj 18 k ((c.aj 18 k) - (c.aj 18 k))).paj 17 k ((((c.aj 17 k) + (((c.aj 17 k) * 500) / 10000)) + (f_X4_flow (c.paj 17 k ((c.aj 17 k) + (((c.aj 17 k) * 500) / 10000))) k (c.ti 1))) - (c.aj 18 k))).ptj 2 ((c.tj 2) - 0)).paj 17 k (((((c.aj 17 k) + (((c.aj 17 k) * 500) / 10000)) + (f_X4_flow (c.paj 17 k ((c.aj 17 k) + (((c.aj 17 k) * 500) / 10000))) k (c.ti 1))) - (c.aj 18 k)) - 0)).paj 19 k ((c.aj 19 k) + ((c.aj 18 k) + 0))))))) else (if (c.ti 1) < (c.ai 12 k) then ((c.aj 18 k) + 0, ((((((((c.paj 17 k ((c.aj 17 k) + (((c.aj 17 k) * 500) / 10000))).paj 17 k (((c.aj 17 k) + (((c.aj 17 k) * 500) / 10000)) + (f_X4_flow (c.paj 17 k ((c.aj 17 k) + (((c.aj 17 k) * 500) / 10000))) k (c.ti 1)))).paj 10 k 0).paj 18 k ((c.aj 18 k) - (c.aj 18 k))).paj 17 k ((((c.aj 17 k) + (((c.aj 17 k) * 500) / 10000)) + (f_X4_flow (c.paj 17 k ((c.aj 17 k) + (((c.aj 17 k) * 500) / 10000))) k (c.ti 1))) - (c.aj 18 k))).ptj 2 ((c.tj 2) - 0)).paj 17 k (((((c.aj 17 k) + (((c.aj 17 k) * 500) / 10000)) + (f_X4_flow (c.paj 17 k ((c.aj 17 k) + (((c.aj 17 k) * 500) / 10000))) k (c.ti 1))) - (c.aj 18 k)) - 0)).paj 19 k ((c.aj 19 k) + ((c.aj 18 k) + 0)))) else (if (((((c.aj 17 k) + (((c.aj 17 k) * 500) / 10000)) + (f_X4_flow (c.paj 17 k ((c.aj 17 k) + (((c.aj 17 k) * 500) / 10000))) k (c.ti 1))) - (c.aj 18 k)) - 0) = 0 then ((c.aj 18 k) + 0, (f_X4_ends ((((((((c.paj 17 k ((c.aj 17 k) + (((c.aj 17 k) * 500) / 10000))).paj 17 k (((c.aj 17 k) + (((c.aj 17 k) * 500) / 10000)) + (f_X4_flow (c.paj 17 k ((c.aj 17 k) + (((c.aj 17 k) * 500) / 10000))) k (c.ti 1)))).paj 10 k 0).paj 18 k ((c.aj 18 k) - (c.aj 18 k))).paj 17 k ((((c.aj 17 k) + (((c.aj 17 k) * 500) / 10000)) + (f_X4_flow (c.paj 17 k ((c.aj 17 k) + (((c.aj 17 k) * 500) / 10000))) k (c.ti 1))) - (c.aj 18 k))).ptj 2 ((c.tj 2) - 0)).paj 17 k (((((c.aj 17 k) + (((c.aj 17 k) * 500) / 10000)) + (f_X4_flow (c.paj 17 k ((c.aj 17 k) + (((c.aj 17 k) * 500) / 10000))) k (c.ti 1))) - (c.aj 18 k)) - 0)).paj 19 k ((c.aj 19 k) + ((c.aj 18 k) + 0))) k)) else ((c.aj 18 k) + 0, ((((((((c.paj 17 k ((c.aj 17 k) + (((c.aj 17 k) * 500) / 10000))).paj 17 k (((c.aj 17 k) + (((c.aj 17 k) * 500) / 10000)) + (f_X4_flow (c.paj 17 k ((c.aj 17 k) + (((c.aj 17 k) * 500) / 10000))) k (c.ti 1)))).paj 10 k 0).paj 18 k ((c.aj 18 k) - (c.aj 18 k))).paj 17 k ((((c.aj 17 k) + (((c.aj 17 k) * 500) / 10000)) + (f_X4_flow (c.paj 17 k ((c.aj 17 k) + (((c.aj 17 k) * 500) / 10000))) k (c.ti 1))) - (c.aj 18 k))).ptj 2 ((c.tj 2) - 0)).paj 17 k (((((c.aj 17 k) + (((c.aj 17 k) * 500) / 10000)) + (f_X4_flow (c.paj 17 k ((c.aj 17 k) + (((c.aj 17 k) * 500) / 10000))) k (c.ti 1))) - (c.aj 18 k)) - 0)).paj 19 k ((c.aj 19 k) + ((c.aj 18 k) + 0))))))) else (if (c.ai 22 (ix (c.ai 8 k))) = 0 then (if 0 ≤ (c.tj 2) then (if (c.tj 2) ≤ ((((c.aj 17 k) + (((c.aj 17 k) * 500) / 10000)) + (f_X4_flow (c.paj 17 k ((c.aj 17 k) + (((c.aj 17 k) * 500) / 10000))) k (c.ti 1))) - (((c.aj 17 k) + (((c.aj 17 k) * 500) / 10000)) + (f_X4_flow (c.paj 17 k ((c.aj 17 k) + (((c.aj 17 k) * 500) / 10000))) k (c.ti 1)))) then (if (c.ti 1) < (c.ai 12 k) then ((((c.aj 17 k) + (((c.aj 17 k) * 500) / 10000)) + (f_X4_flow (c.paj 17 k ((c.aj 17 k) + (((c.aj 17 k) * 500) / 10000))) k (c.ti 1))) + (c.tj 2), ((((((((c.paj 17 k ((c.aj 17 k) + (((c.aj 17 k) * 500) / 10000))).paj 17 k (((c.aj 17 k) + (((c.aj 17 k) * 500) / 10000)) + (f_X4_flow (c.paj 17 k ((c.aj 17 k) + (((c.aj 17 k) * 500) / 10000))) k (c.ti 1)))).paj 10 k 0).paj 18 k ((c.aj 18 k) - (((c.aj 17 k) + (((c.aj 17 k) * 500) / 10000)) + (f_X4_flow (c.paj 17 k ((c.aj 17 k) + (((c.aj 17 k) * 500) / 10000))) k (c.ti 1))))).paj 17 k ((((c.aj 17 k) + (((c.aj 17 k) * 500) / 10000)) + (f_X4_flow (c.paj 17 k ((c.aj 17 k) + (((c.aj 17 k) * 500) / 10000))) k (c.ti 1))) - (((c.aj 17 k) + (((c.aj 17 k) * 500) / 10000)) + (f_X4_flow (c.paj 17 k ((c.aj 17 k) + (((c.aj 17 k) * 500) / 10000))) k (c.ti 1))))).ptj 2 ((c.tj 2) - (c.tj 2))).paj 17 k (((((c.aj 17 k) + (((c.aj 17 k) * 500) / 10000)) + (f_X4_flow (c.paj 17 k ((c.aj 17 k) + (((c.aj 17 k) * 500) / 10000))) k (c.ti 1))) - (((c.aj 17 k) + (((c.aj 17 k) * 500) / 10000)) + (f_X4_flow (c.paj 17 k ((c.aj 17 k) + (((c.aj 17 k) * 500) / 10000))) k (c.ti 1)))) - (c.tj 2))).paj 19 k ((c.aj 19 k) + ((((c.aj 17 k) + (((c.aj 17 k) * 500) / 10000)) + (f_X4_flow (c.paj 17 k ((c.aj 17 k) + (((c.aj 17 k) * 500) / 10000))) k (c.ti 1))) + (c.tj 2))))) else (if (((((c.aj 17 k) + (((c.aj 17 k) * 500) / 10000)) + (f_X4_flow (c.paj 17 k ((c.aj 17 k) + (((c.aj 17 k) * 500) / 10000))) k (c.ti 1))) - (((c.aj 17 k) + (((c.aj 17 k) * 500) / 10000)) + (f_X4_flow (c.paj 17 k ((c.aj 17 k) + (((c.aj 17 k) * 500) / 10000))) k (c.ti 1)))) - (c.tj 2)) = 0 then ((((c.aj 17 k) + (((c.aj 17 k) * 500) / 10000)) + (f_X4_flow (c.paj 17 k ((c.aj 17 k) + (((c.aj 17 k) * 500) / 10000))) k (c.ti 1))) + (c.tj 2), (f_X4_ends ((((((((c.paj 17 k ((c.aj 17 k) + (((c.aj 17 k) * 500) / 10000))).paj 17 k (((c.aj 17 k) + (((c.aj 17 k) * 500) / 10000)) + (f_X4_flow (c.paj 17 k ((c.aj 17 k) + (((c.aj 17 k) * 500) / 10000))) k (c.ti 1)))).paj 10 k 0).paj 18 k ((c.aj 18 k) - (((c.aj 17 k) + (((c.aj 17 k) * 500) / 10000)) + (f_X4_flow (c.paj 17 k ((c.aj 17 k) + (((c.aj 17 k) * 500) / 10000))) k (c.ti 1))))).paj 17 k ((((c.aj 17 k) + (((c.aj 17 k) * 500) / 10000)) + (f_X4_flow (c.paj 17 k ((c.aj 17 k) + (((c.aj 17 k) * 500) / 10000))) k (c.ti 1))) - (((c.aj 17 k) + (((c.aj 17 k) * 500) / 10000)) + (f_X4_flow (c.paj 17 k ((c.aj 17 k) + (((c.aj 17 k) * 500) / 10000))) k (c.ti 1))))).ptj 2 ((c.tj 2) - (c.tj 2))).paj 17 k (((((c.aj 17 k) + (((c.aj 17 k) * 500) / 10000)) + (f_X4_flow (c.paj 17 k ((c.aj 17 k) + (((c.aj 17 k) * 500) / 10000))) k (c.ti 1))) - (((c.aj 17 k) + (((c.aj 17 k) * 500) / 10000)) + (f_X4_flow (c.paj 17 k ((c.aj 17 k) + (((c.aj 17 k) * 500) / 10000))) k (c.ti 1)))) - (c.tj 2))).paj 19 k ((c.aj 19 k) + ((((c.aj 17 k) + (((c.aj 17 k) * 500) / 10000)) + (f_X4_flow (c.paj 17 k ((c.aj 17 k) + (((c.aj 17 k) * 500) / 10000))) k (c.ti 1))) + (c.tj 2)))) k)) else ((((c.aj 17 k) + (((c.aj 17 k) * 500) / 10000)) + (f_X4_flow (c.paj 17 k ((c.aj 17 k) + (((c.aj 17 k) * 500) / 10000))) k (c.ti 1))) + (c.tj 2), ((((((((c.paj 17 k ((c.aj 17 k) + (((c.aj 17 k) * 500) / 10000))).paj 17 k (((c.aj 17 k) + (((c.aj 17 k) * 500) / 10000)) + (f_X4_flow (c.paj 17 k ((c.aj 17 k) + (((c.aj 17 k) * 500) / 10000))) k (c.ti 1)))).paj 10 k 0).paj 18 k ((c.aj 18 k) - (((c.aj 17 k) + (((c.aj 17 k) * 500) / 10000)) + (f_X4_flow (c.paj 17 k ((c.aj 17 k) + (((c.aj 17 k) * 500) / 10000))) k (c.ti 1))))).paj 17 k ((((c.aj 17 k) + (((c.aj 17 k) * 500) / 10000)) + (f_X4_flow (c.paj 17 k ((c.aj 17 k) + (((c.aj 17 k) * 500) / 10000))) k (c.ti 1))) - (((c.aj 17 k) + (((c.aj 17 k) * 500) / 10000)) + (f_X4_flow (c.paj 17 k ((c.aj 17 k) + (((c.aj 17 k) * 500) / 10000))) k (c.ti 1))))).ptj 2 ((c.tj 2) - (c.tj 2))).paj 17 k (((((c.aj 17 k) + (((c.aj 17 k) * 500) / 10000)) + (f_X4_flow (c.paj 17 k ((c.aj 17 k) + (((c.aj 17 k) * 500) / 10000))) k (c.ti 1))) - (((c.aj 17 k) + (((c.aj 17 k) * 500) / 10000)) + (f_X4_flow (c.paj 17 k ((c.aj 17 k) + (((c.aj 17 k) * 500) / 10000))) k (c.ti 1)))) - (c.tj 2))).paj 19 k ((c.aj 19 k) + ((((c.aj 17 k) + (((c.aj 17 k) * 500) / 10000)) + (f_X4_flow (c.paj 17 k ((c.aj 17 k) + (((c.aj 17 k) * 500) / 10000))) k (c.ti 1))) + (c.tj 2))))))) else (if (c.ti 1) < (c.ai 12 k) then ((((c.aj 17 k) + (((c.aj 17 k) * 500) / 10000)) + (f_X4_flow (c.paj 17 k ((c.aj 17 k) + (((c.aj 17 k) * 500) / 10000))) k (c.ti 1))) + ((((c.aj 17 k) + (((c.aj 17 k) * 500) / 10000)) + (f_X4_flow (c.paj 17 k ((c.aj 17 k) + (((c.aj 17 k) * 500) / 10000))) k (c.ti 1))) - (((c.aj 17 k) + (((c.aj 17 k) * 500) / 10000)) + (f_X4_flow (c.paj 17 k ((c.aj 17 k) + (((c.aj 17 k) * 500) / 10000))) k (c.ti 1)))), ((((((((c.paj 17 k ((c.aj 17 k) + (((c.aj 17 k) * 500) / 10000))).paj 17 k (((c.aj 17 k) + (((c.aj 17 k) * 500) / 10000)) + (f_X4_flow (c.paj 17 k ((c.aj 17 k) + (((c.aj 17 k) * 500) / 10000))) k (c.ti 1)))).paj 10 k 0).paj 18 k ((c.aj 18 k) - (((c.aj 17 k) + (((c.aj 17 k) * 500) / 10000)) + (f_X4_flow (c.paj 17 k ((c.aj 17 k) + (((c.aj 17 k) * 500) / 10000))) k (c.ti 1))))).paj 17 k ((((c.aj 17 k) + (((c.aj 17 k) * 500) / 10000)) + (f_X4_flow (c.paj 17 k ((c.aj 17 k) + (((c.aj 17 k) * 500) / 10000))) k (c.ti 1))) - (((c.aj 17 k) + (((c.aj 17 k) * 500) / 10000)) + (f_X4_flow (c.paj 17 k ((c.aj 17 k) + (((c.aj 17 k) * 500) / 10000))) k (c.ti 1))))).ptj 2 ((c.tj 2) - ((((c.aj 17 k) + (((c.aj 17 k) * 500) / 10000)) + (f_X4_flow (c.paj 17 k ((c.aj 17 k) + (((c.aj 17 k) * 500) / 10000))) k (c.ti 1))) - (((c.aj 17 k) + (((c.aj 17 k) * 500) / 10000)) + (f_X4_flow (c.paj 17 k ((c.aj 17 k) + (((c.aj 17 k) * 500) / 10000))) k (c.ti 1)))))).paj 17 k (((((c.aj 17 k) + (((c.aj 17 k) * 500) / 10000)) + (f_X4_flow (c.paj 17 k ((c.aj 17 k) + (((c.aj 17 k) * 500) / 10000))) k (c.ti 1))) - (((c.aj 17 k) + (((c.aj 17 k) * 500) / 10000)) + (f_X4_flow (c.paj 17 k ((c.aj 17 k) + (((c.aj 17 k) * 500) / 10000))) k (c.ti 1)))) - ((((c.aj 17 k) + (((c.aj 17 k) * 500) / 10000)) + (f_X4_flow (c.paj 17 k ((c.aj 17 k) + (((c.aj 17 k) * 500) / 10000))) k (c.ti 1))) - (((c.aj 17 k) + (((c.aj 17 k) * 500) / 10000)) + (f_X4_flow (c.paj 17 k ((c.aj 17 k) + (((c.aj 17 k) * 500) / 10000))) k (c.ti 1)))))).paj 19 k ((c.aj 19 k) + ((((c.aj 17 k) + (((c.aj 17 k) * 500) / 10000)) + (f_X4_flow (c.paj 17 k ((c.aj 17 k) + (((c.aj 17 k) * 500) / 10000))) k (c.ti 1))) + ((((c.aj 17 k) + (((c.aj 17 k) * 500) / 10000)) + (f_X4_flow (c.paj 17 k ((c.aj 17 k) + (((c.aj 17 k) * 500) / 10000))) k (c.ti 1))) - (((c.aj 17 k) + (((c.aj 17 k) * 500) / 10000)) + (f_X4_flow (c.paj 17 k ((c.aj 17 k) + (((c.aj 17 k) * 500) / 10000))) k (c.ti 1)))))))) else (if (((((c.aj 17 k) + (((c.aj 17 k) * 500) / 10000)) + (f_X4_flow (c.paj 17 k ((c.aj 17 k) + (((c.aj 17 k) * 500) / 10000))) k (c.ti 1))) - (((c.aj 17 k) + (((c.aj 17 k) * 500) / 10000)) + (f_X4_flow (c.paj 17 k ((c.aj 17 k) + (((c.aj 17 k) * 500) / 10000))) k (c.ti 1)))) - ((((c.aj 17 k) + (((c.aj 17 k) * 500) / 10000)) + (f_X4_flow (c.paj 17 k ((c.aj 17 k) + (((c.aj 17 k) * 500) / 10000))) k (c.ti 1))) - (((c.aj 17 k) + (((c.aj 17 k) * 500) / 10000)) + (f_X4_flow (c.paj 17 k ((c.aj 17 k) + (((c.aj 17 k) * 500) / 10000))) k (c.ti 1))))) = 0 then ((((c.aj 17 k) + (((c.aj 17 k) * 500) / 10000)) + (f_X4_flow (c.paj 17 k ((c.aj 17 k) + (((c.aj 17 k) * 500) / 10000))) k (c.ti 1))) + ((((c.aj 17 k) + (((c.aj 17 k) * 500) / 10000)) + (f_X4_flow (c.paj 17 k ((c.aj 17 k) + (((c.aj 17 k) * 500) / 10000))) k (c.ti 1))) - (((c.aj 17 k) + (((c.aj 17 k) * 500) / 10000)) + (f_X4_flow (c.paj 17 k ((c.aj 17 k) + (((c.aj 17 k) * 500) / 10000))) k (c.ti 1)))), (f_X4_ends ((((((((c.paj 17 k ((c.aj 17 k) + (((c.aj 17 k) * 500) / 10000))).paj 17 k (((c.aj 17 k) + (((c.aj 17 k) * 500) / 10000)) + (f_X4_flow (c.paj 17 k ((c.aj 17 k) + (((c.aj 17 k) * 500) / 10000))) k (c.ti 1)))).paj 10 k 0).paj 18 k ((c.aj 18 k) - (((c.aj 17 k) + (((c.aj 17 k) * 500) / 10000)) + (f_X4_flow (c.paj 17 k ((c.aj 17 k) + (((c.aj 17 k) * 500) / 10000))) k (c.ti 1))))).paj 17 k ((((c.aj 17 k) + (((c.aj 17 k) * 500) / 10000)) + (f_X4_flow (c.paj 17 k ((c.aj 17 k) + (((c.aj 17 k) * 500) / 10000))) k (c.ti 1))) - (((c.aj 17 k) + (((c.aj 17 k) * 500) / 10000)) + (f_X4_flow (c.paj 17 k ((c.aj 17 k) + (((c.aj 17 k) * 500) / 10000))) k (c.ti 1))))).ptj 2 ((c.tj 2) - ((((c.aj 17 k) + (((c.aj 17 k) * 500) / 10000)) + (f_X4_flow (c.paj 17 k ((c.aj 17 k) + (((c.aj 17 k) * 500) / 10000))) k (c.ti 1))) - (((c.aj 17 k) + (((c.aj 17 k) * 500) / 10000)) + (f_X4_flow (c.paj 17 k ((c.aj 17 k) + (((c.aj 17 k) * 500) / 10000))) k (c.ti 1)))))).paj 17 k (((((c.aj 17 k) + (((c.aj 17 k) * 500) / 10000)) + (f_X4_flow (c.paj 17 k ((c.aj 17 k) + (((c.aj 17 k) * 500) / 10000))) k (c.ti 1))) - (((c.aj 17 k) + (((c.aj 17 k) * 500) / 10000)) + (f_X4_flow (c.paj 17 k ((c.aj 17 k) + (((c.aj 17 k) * 500) / 10000))) k (c.ti 1)))) - ((((c.aj 17 k) + (((c.aj 17 k) * 500) / 10000)) + (f_X4_flow (c.paj 17 k ((c.aj 17 k) + (((c.aj 17 k) * 500) / 10000))) k (c.ti 1))) - (((c.aj 17 k) + (((c.aj 17 k) * 500) / 10000)) + (f_X4_flow (c.paj 17 k ((c.aj 17 k) + (((c.aj 17 k) * 500) / 10000))) k (c.ti 1)))))).paj 19 k ((c.aj 19 k) + ((((c.aj 17 k) + (((c.aj 17 k) * 500) / 10000)) + (f_X4_flow (c.paj 17 k ((c.aj 17 k) + (((c.aj 17 k) * 500) / 10000))) k (c.ti 1))) + ((((c.aj 17 k) + (((c.aj 17 k) * 500) / 10000)) + (f_X4_flow (c.paj 17 k ((c.aj 17 k) + (((c.aj 17 k) * 500) / 10000))) k (c.ti 1))) - (((c.aj 17 k) + (((c.aj 17 k) * 500) / 10000)) + (f_X4_flow (c.paj 17 k ((c.aj 17 k) + (((c.aj 17 k) * 500) / 10000))) k (c.ti 1))))))) k)) else ((((c.aj 17 k) + (((c.aj 17 k) * 500) / 10000)) + (f_X4_flow (c.paj 17 k ((c.aj 17 k) + (((c.aj 17 k) * 500) / 10000))) k (c.ti 1))) + ((((c.aj 17 k) + (((c.aj 17 k) * 500) / 10000)) + (f_X4_flow (c.paj 17 k ((c.aj 17 k) + (((c.aj 17 k) * 500) / 10000))) k (c.ti 1))) - (((c.aj 17 k) + (((c.aj 17 k) * 500) / 10000)) + (f_X4_flow (c.paj 17 k ((c.aj 17 k) + (((c.aj 17 k) * 500) / 10000))) k (c.ti 1)))), ((((((((c.paj 17 k ((c.aj 17 k) + (((c.aj 17 k) * 500) / 10000))).paj 17 k (((c.aj 17 k) + (((c.aj 17 k) * 500) / 10000)) + (f_X4_flow (c.paj 17 k ((c.aj 17 k) + (((c.aj 17 k) * 500) / 10000))) k (c.ti 1)))).paj 10 k 0).paj 18 k ((c.aj 18 k) - (((c.aj 17 k) + (((c.aj 17 k) * 500) / 10000)) + (f_X4_flow (c.paj 17 k ((c.aj 17 k) + (((c.aj 17 k) * 500) / 10000))) k (c.ti 1))))).paj 17 k ((((c.aj 17 k) + (((c.aj 17 k) * 500) / 10000)) + (f_X4_flow (c.paj 17 k ((c.aj 17 k) + (((c.aj 17 k) * 500) / 10000))) k (c.ti 1))) - (((c.aj 17 k) + (((c.aj 17 k) * 500) / 10000)) + (f_X4_flow (c.paj 17 k ((c.aj 17 k) + (((c.aj 17 k) * 500) / 10000))) k (c.ti 1))))).ptj 2 ((c.tj 2) - ((((c.aj 17 k) + (((c.aj 17 k) * 500) / 10000)) + (f_X4_flow (c.paj 17 k ((c.aj 17 k) + (((c.aj 17 k) * 500) / 10000))) k (c.ti 1))) - (((c.aj 17 k) + (((c.aj 17 k) * 500) / 10000)) + (f_X4_flow (c.paj 17 k ((c.aj 17 k) + (((c.aj 17 k) * 500) / 10000))) k (c.ti 1)))))).paj 17 k (((((c.aj 17 k) + (((c.aj 17 k) * 500) / 10000)) + (f_X4_flow (c.paj 17 k ((c.aj 17 k) + (((c.aj 17 k) * 500) / 10000))) k (c.ti 1))) - (((c.aj 17 k) + (((c.aj 17 k) * 500) / 10000)) + (f_X4_flow (c.paj 17 k ((c.aj 17 k) + (((c.aj 17 k) * 500) / 10000))) k (c.ti 1)))) - ((((c.aj 17 k) + (((c.aj 17 k) * 500) / 10000)) + (f_X4_flow (c.paj 17 k ((c.aj 17 k) + (((c.aj 17 k) * 500) / 10000))) k (c.ti 1))) - (((c.aj 17 k) + (((c.aj 17 k) * 500) / 10000)) + (f_X4_flow (c.paj 17 k ((c.aj 17 k) + (((c.aj 17 k) * 500) / 10000))) k (c.ti 1)))))).paj 19 k ((c.aj 19 k) + ((((c.aj 17 k) + (((c.aj 17 k) * 500) / 10000)) + (f_X4_flow (c.paj 17 k ((c.aj 17 k) + (((c.aj 17 k) * 500) / 10000))) k (c.ti 1))) + ((((c.aj 17 k) + (((c.aj 17 k) * 500) / 10000)) + (f_X4_flow (c.paj 17 k ((c.aj 17 k) + (((c.aj 17 k) * 500) / 10000))) k (c.ti 1))) - (((c.aj 17 k) + (((c.aj 17 k) * 500) / 10000)) + (f_X4_flow (c.paj 17 k ((c.aj 17 k) + (((c.aj 17 k) * 500) / 10000))) k (c.ti 1))))))))))) else (if (c.ti 1) < (c.ai 12 k) then ((((c.aj 17 k) + (((c.aj 17 k) * 500) / 10000)) + (f_X4_flow (c.paj 17 k ((c.aj 17 k) + (((c.aj 17 k) * 500) / 10000))) k (c.ti 1))) + 0, ((((((((c.paj 17 k ((c.aj 17 k) + (((c.aj 17 k) * 500) / 10000))).paj 17 k (((c.aj 17 k) + (((c.aj 17 k) * 500) / 10000)) + (f_X4_flow (c.paj 17 k ((c.aj 17 k) + (((c.aj 17 k) * 500) / 10000))) k (c.ti 1)))).paj 10 k 0).paj 18 k ((c.aj 18 k) - (((c.aj 17 k) + (((c.aj 17 k) * 500) / 10000)) + (f_X4_flow (c.paj 17 k ((c.aj 17 k) + (((c.aj 17 k) * 500) / 10000))) k (c.ti 1))))).paj 17 k ((((c.aj 17 k) + (((c.aj 17 k) * 500) / 10000)) + (f_X4_flow (c.paj 17 k ((c.aj 17 k) + (((c.aj 17 k) * 500) / 10000))) k (c.ti 1))) - (((c.aj 17 k) + (((c.aj 17 k) * 500) / 10000)) + (f_X4_flow (c.paj 17 k ((c.aj 17 k) + (((c.aj 17 k) * 500) / 10000))) k (c.ti 1))))).ptj 2 ((c.tj 2) - 0)).paj 17 k (((((c.aj 17 k) + (((c.aj 17 k) * 500) / 10000)) + (f_X4_flow (c.paj 17 k ((c.aj 17 k) + (((c.aj 17 k) * 500) / 10000))) k (c.ti 1))) - (((c.aj 17 k) + (((c.aj 17 k) * 500) / 10000)) + (f_X4_flow (c.paj 17 k ((c.aj 17 k) + (((c.aj 17 k) * 500) / 10000))) k (c.ti 1)))) - 0)).paj 19 k ((c.aj 19 k) + ((((c.aj 17 k) + (((c.aj 17 k) * 500) / 10000)) + (f_X4_flow (c.paj 17 k ((c.aj 17 k) + (((c.aj 17 k) * 500) / 10000))) k (c.ti 1))) + 0)))) else (if (((((c.aj 17 k) + (((c.aj 17 k) * 500) / 10000)) + (f_X4_flow (c.paj 17 k ((c.aj 17 k) + (((c.aj 17 k) * 500) / 10000))) k (c.ti 1))) - (((c.aj 17 k) + (((c.aj 17 k) * 500) / 10000)) + (f_X4_flow (c.paj 17 k ((c.aj 17 k) + (((c.aj 17 k) * 500) / 10000))) k (c.ti 1)))) - 0) = 0 then ((((c.aj 17 k) + (((c.aj 17 k) * 500) / 10000)) + (f_X4_flow (c.paj 17 k ((c.aj 17 k) + (((c.aj 17 k) * 500) / 10000))) k (c.ti 1))) + 0, (f_X4_ends ((((((((c.paj 17 k ((c.aj 17 k) + (((c.aj 17 k) * 500) / 10000))).paj 17 k (((c.aj 17 k) + (((c.aj 17 k) * 500) / 10000)) + (f_X4_flow (c.paj 17 k ((c.aj 17 k) + (((c.aj 17 k) * 500) / 10000))) k (c.ti 1)))).paj 10 k 0).paj 18 k ((c.aj 18 k) - (((c.aj 17 k) + (((c.aj 17 k) * 500) / 10000)) + (f_X4_flow (c.paj 17 k ((c.aj 17 k) + (((c.aj 17 k) * 500) / 10000))) k (c.ti 1))))).paj 17 k ((((c.aj 17 k) + (((c.aj 17 k) * 500) / 10000)) + (f_X4_flow (c.paj 17 k ((c.aj 17 k) + (((c.aj 17 k) * 500) / 10000))) k (c.ti 1))) - (((c.aj 17 k) + (((c.aj 17 k) * 500) / 10000)) + (f_X4_flow (c.paj 17 k ((c.aj 17 k) + (((c.aj 17 k) * 500) / 10000))) k (c.ti 1))))).ptj 2 ((c.tj 2) - 0)).paj 17 k (((((c.aj 17 k) + (((c.aj 17 k) * 500) / 10000)) + (f_X4_flow (c.paj 17 k ((c.aj 17 k) + (((c.aj 17 k) * 500) / 10000))) k (c.ti 1))) - (((c.aj 17 k) + (((c.aj 17 k) * 500) / 10000)) + (f_X4_flow (c.paj 17 k ((c.aj 17 k) + (((c.aj 17 k) * 500) / 10000))) k (c.ti 1)))) - 0)).paj 19 k ((c.aj 19 k) + ((((c.aj 17 k) + (((c.aj 17 k) * 500) / 10000)) + (f_X4_flow (c.paj 17 k ((c.aj 17 k) + (((c.aj 17 k) * 500) / 10000))) k (c.ti 1))) + 0))) k)) else ((((c.aj 17 k) + (((c.aj 17 k) * 500) / 10000)) + (f_X4_flow (c.paj 17 k ((c.aj 17 k) + (((c.aj 17 k) * 500) / 10000))) k (c.ti 1))) + 0, ((((((((c.paj 17 k ((c.aj 17 k) + (((c.aj 17 k) * 500) / 10000))).paj 17 k (((c.aj 17 k) + (((c.aj 17 k) * 500) / 10000)) + (f_X4_flow (c.paj 17 k ((c.aj 17 k) + (((c.aj 17 k) * 500) / 10000))) k (c.ti 1)))).paj 10 k 0).paj 18 k ((c.aj 18 k) - (((c.aj 17 k) + (((c.aj 17 k) * 500) / 10000)) + (f_X4_flow (c.paj 17 k ((c.aj 17 k) + (((c.aj 17 k) * 500) / 10000))) k (c.ti 1))))).paj 17 k ((((c.aj 17 k) + (((c.aj 17 k) * 500) / 10000)) + (f_X4_flow (c.paj 17 k ((c.aj 17 k) + (((c.aj 17 k) * 500) / 10000))) k (c.ti 1))) - (((c.aj 17 k) + (((c.aj 17 k) * 500) / 10000)) + (f_X4_flow (c.paj 17 k ((c.aj 17 k) + (((c.aj 17 k) * 500) / 10000))) k (c.ti 1))))).ptj 2 ((c.tj 2) - 0)).paj 17 k (((((c.aj 17 k) + (((c.aj 17 k) * 500) / 10000)) + (f_X4_flow (c.paj 17 k ((c.aj 17 k) + (((c.aj 17 k) * 500) / 10000))) k (c.ti 1))) - (((c.aj 17 k) + (((c.aj 17 k) * 500) / 10000)) + (f_X4_flow (c.paj 17 k ((c.aj 17 k) + (((c.aj 17 k) * 500) / 10000))) k (c.ti 1)))) - 0)).paj 19 k ((c.aj 19 k) + ((((c.aj 17 k) + (((c.aj 17 k) * 500) / 10000)) + (f_X4_flow (c.paj 17 k ((c.aj 17 k) + (((c.aj 17 k) * 500) / 10000))) k (c.ti 1))) + 0))))))) else (if (c.ti 1) < (c.ai 12 k) then ((((c.aj 17 k) + (((c.aj 17 k) * 500) / 10000)) + (f_X4_flow (c.paj 17 k ((c.aj 17 k) + (((c.aj 17 k) * 500) / 10000))) k (c.ti 1))) + 0, ((((((((c.paj 17 k ((c.aj 17 k) + (((c.aj 17 k) * 500) / 10000))).paj 17 k (((c.aj 17 k) + (((c.aj 17 k) * 500) / 10000)) + (f_X4_flow (c.paj 17 k ((c.aj 17 k) + (((c.aj 17 k) * 500) / 10000))) k (c.ti 1)))).paj 10 k 0).paj 18 k ((c.aj 18 k) - (((c.aj 17 k) + (((c.aj 17 k) * 500) / 10000)) + (f_X4_flow (c.paj 17 k ((c.aj 17 k) + (((c.aj 17 k) * 500) / 10000))) k (c.ti 1))))).paj 17 k ((((c.aj 17 k) + (((c.aj 17 k) * 500) / 10000)) + (f_X4_flow (c.paj 17 k ((c.aj 17 k) + (((c.aj 17 k) * 500) / 10000))) k (c.ti 1))) - (((c.aj 17 k) + (((c.aj 17 k) * 500) / 10000)) + (f_X4_flow (c.paj 17 k ((c.aj 17 k) + (((c.aj 17 k) * 500) / 10000))) k (c.ti 1))))).ptj 2 ((c.tj 2) - 0)).paj 17 k (((((c.aj 17 k) + (((c.aj 17 k) * 500) / 10000)) + (f_X4_flow (c.paj 17 k ((c.aj 17 k) + (((c.aj 17 k) * 500) / 10000))) k (c.ti 1))) - (((c.aj 17 k) + (((c.aj 17 k) * 500) / 10000)) + (f_X4_flow (c.paj 17 k ((c.aj 17 k) + (((c.aj 17 k) * 500) / 10000))) k (c.ti 1)))) - 0)).paj 19 k ((c.aj 19 k) + ((((c.aj 17 k) + (((c.aj 17 k) * 500) / 10000)) + (f_X4_flow (c.paj 17 k ((c.aj 17 k) + (((c.aj 17 k) * 500) / 10000))) k (c.ti 1))) + 0)))) else (if (((((c.aj 17 k) + (((c.aj 17 k) * 500) / 10000)) + (f_X4_flow (c.paj 17 k ((c.aj 17 k) + (((c.aj 17 k) * 500) / 10000))) k (c.ti 1))) - (((c.aj 17 k) + (((c.aj 17 k) * 500) / 10000)) + (f_X4_flow (c.paj 17 k ((c.aj 17 k) + (((c.aj 17 k) * 500) / 10000))) k (c.ti 1)))) - 0) = 0 then ((((c.aj 17 k) + (((c.aj 17 k) * 500) / 10000)) + (f_X4_flow (c.paj 17 k ((c.aj 17 k) + (((c.aj 17 k) * 500) / 10000))) k (c.ti 1))) + 0, (f_X4_ends ((((((((c.paj 17 k ((c.aj 17 k) + (((c.aj 17 k) * 500) / 10000))).paj 17 k (((c.aj 17 k) + (((c.aj 17 k) * 500) / 10000)) + (f_X4_flow (c.paj 17 k ((c.aj 17 k) + (((c.aj 17 k) * 500) / 10000))) k (c.ti 1)))).paj 10 k 0).paj 18 k ((c.aj 18 k) - (((c.aj 17 k) + (((c.aj 17 k) * 500) / 10000)) + (f_X4_flow (c.paj 17 k ((c.aj 17 k) + (((c.aj 17 k) * 500) / 10000))) k (c.ti 1))))).paj 17 k ((((c.aj 17 k) + (((c.aj 17 k) * 500) / 10000)) + (f_X4_flow (c.paj 17 k ((c.aj 17 k) + (((c.aj 17 k) * 500) / 10000))) k (c.ti 1))) - (((c.aj 17 k) + (((c.aj 17 k) * 500) / 10000)) + (f_X4_flow (c.paj 17 k ((c.aj 17 k) + (((c.aj 17 k) * 500) / 10000))) k (c.ti 1))))).ptj 2 ((c.tj 2) - 0)).paj 17 k (((((c.aj 17 k) + (((c.aj 17 k) * 500) / 10000)) + (f_X4_flow (c.paj 17 k ((c.aj 17 k) + (((c.aj 17 k) * 500) / 10000))) k (c.ti 1))) - (((c.aj 17 k) + (((c.aj 17 k) * 500) / 10000)) + (f_X4_flow (c.paj 17 k ((c.aj 17 k) + (((c.aj 17 k) * 500) / 10000))) k (c.ti 1)))) - 0)).paj 19 k ((c.aj 19 k) + ((((c.aj 17 k) + (((c.aj 17 k) * 500) / 10000)) + (f_X4_flow (c.paj 17 k ((c.aj 17 k) + (((c.aj 17 k) * 500) / 10000))) k (c.ti 1))) + 0))) k)) else ((((c.aj 17 k) + (((c.aj 17 k) * 500) / 10000)) + (f_X4_flow (c.paj 17 k ((c.aj 17 k) + (((c.aj 17 k) * 500) / 10000))) k (c.ti 1))) + 0, ((((((((c.paj 17 k ((c.aj 17 k) + (((c.aj 17 k) * 500) / 10000))).paj 17 k (((c.aj 17 k) + (((c.aj 17 k) * 500) / 10000)) + (f_X4_flow (c.paj 17 k ((c.aj 17 k) + (((c.aj 17 k) * 500) / 10000))) k (c.ti 1)))).paj 10 k 0).paj 18 k ((c.aj 18 k) - (((c.aj 17 k) + (((c.aj 17 k) * 500) / 10000)) + (f_X4_flow (c.paj 17 k ((c.aj 17 k) + (((c.aj 17 k) * 500) / 10000))) k (c.ti 1))))).paj 17 k ((((c.aj 17 k) + (((c.aj 17 k) * 500) / 10000)) + (f_X4_flow (c.paj 17 k ((c.aj 17 k) + (((c.aj 17 k) * 500) / 10000))) k (c.ti 1))) - (((c.aj 17 k) + (((c.aj 17 k) * 500) / 10000)) + (f_X4_flow (c.paj 17 k ((c.aj 17 k) + (((c.aj 17 k) * 500) / 10000))) k (c.ti 1))))).ptj 2 ((c.tj 2) - 0)).paj 17 k (((((c.aj 17 k) + (((c.aj 17 k) * 500) / 10000)) + (f_X4_flow (c.paj 17 k ((c.aj 17 k) + (((c.aj 17 k) * 500) / 10000))) k (c.ti 1))) - (((c.aj 17 k) + (((c.aj 17 k) * 500) / 10000)) + (f_X4_flow (c.paj 17 k ((c.aj 17 k) + (((c.aj 17 k) * 500) / 10000))) k (c.ti 1)))) - 0)).paj 19 k ((c.aj 19 k) + ((((c.aj 17 k) + (((c.aj 17 k) * 500) / 10000)) + (f_X4_flow (c.paj 17 k ((c.aj 17 k) + (((c.aj 17 k) * 500) / 10000))) k (c.ti 1))) + 0)))))))) else (if (c.aj 18 k) ≤ (((c.aj 17 k) + (((c.aj 17 k) * 500) / 10000)) + (f_X4_flow (c.paj 17 k ((c.aj 17 k) + (((c.aj 17 k) * 500) / 10000))) k (c.ti 1))) then (if (c.ai 22 (ix (c.ai 8 k))) = 0 then (if 0 ≤ (c.tj 2) then (if (c.tj 2) ≤ ((((c.aj 17 k) + (((c.aj 17 k) * 500) / 10000)) + (f_X4_flow (c.paj 17 k ((c.aj 17 k) + (((c.aj 17 k) * 500) / 10000))) k (c.ti 1))) - (c.aj 18 k)) then (if (c.ti 1) < (c.ai 12 k) then ((c.aj 18 k) + (c.tj 2), ((((((((c.paj 17 k ((c.aj 17 k) + (((c.aj 17 k) * 500) / 10000))).paj 17 k (((c.aj 17 k) + (((c.aj 17 k) * 500) / 10000)) + (f_X4_flow (c.paj 17 k ((c.aj 17 k) + (((c.aj 17 k) * 500) / 10000))) k (c.ti 1)))).paj 10 k (c.aj 10 k)).paj 18 k ((c.aj 18 k) - (c.aj 18 k))).paj 17 k ((((c.aj 17 k) + (((c.aj 17 k) * 500) / 10000)) + (f_X4_flow (c.paj 17 k ((c.aj 17 k) + (((c.aj 17 k) * 500) / 10000))) k (c.ti 1))) - (c.aj 18 k))).ptj 2 ((c.tj 2) - (c.tj 2))).paj 17 k (((((c.aj 17 k) + (((c.aj 17 k) * 500) / 10000)) + (f_X4_flow (c.paj 17 k ((c.aj 17 k) + (((c.aj 17 k) * 500) / 10000))) k (c.ti 1))) - (c.aj 18 k)) - (c.tj 2))).paj 19 k ((c.aj 19 k) + ((c.aj 18 k) + (c.tj 2))))) else (if (((((c.aj 17 k) + (((c.aj 17 k) * 500) / 10000)) + (f_X4_flow (c.paj 17 k ((c.aj 17 k) + (((c.aj 17 k) * 500) / 10000))) k (c.ti 1))) - (c.aj 18 k)) - (c.tj 2)) = 0 then ((c.aj 18 k) + (c.tj 2), (f_X4_ends ((((((((c.paj 17 k ((c.aj 17 k) + (((c.aj 17 k) * 500) / 10000))).paj 17 k (((c.aj 17 k) + (((c.aj 17 k) * 500) / 10000)) + (f_X4_flow (c.paj 17 k ((c.aj 17 k) + (((c.aj 17 k) * 500) / 10000))) k (c.ti 1)))).paj 10 k (c.aj 10 k)).paj 18 k ((c.aj 18 k) - (c.aj 18 k))).paj 17 k ((((c.aj 17 k) + (((c.aj 17 k) * 500) / 10000)) + (f_X4_flow (c.paj 17 k ((c.aj 17 k) + (((c.aj 17 k) * 500) / 10000))) k (c.ti 1))) - (c.aj 18 k))).ptj 2 ((c.tj 2) - (c.tj 2))).paj 17 k (((((c.aj 17 k) + (((c.aj 17 k) * 500) / 10000)) + (f_X4_flow (c.paj 17 k ((c.aj 17 k) + (((c.aj 17 k) * 500) / 10000))) k (c.ti 1))) - (c.aj 18 k)) - (c.tj 2))).paj 19 k ((c.aj 19 k) + ((c.aj 18 k) + (c.tj 2)))) k)) else ((c.aj 18 k) + (c.tj 2), ((((((((c.paj 17 k ((c.aj 17 k) + (((c.aj 17 k) * 500) / 10000))).paj 17 k (((c.aj 17 k) + (((c.aj 17 k) * 500) / 10000)) + (f_X4_flow (c.paj 17 k ((c.aj 17 k) + (((c.aj 17 k) * 500) / 10000))) k (c.ti 1)))).paj 10 k (c.aj 10 k)).paj 18 k ((c.aj 18 k) - (c.aj 18 k))).paj 17 k ((((c.aj 17 k) + (((c.aj 17 k) * 500) / 10000)) + (f_X4_flow (c.paj 17 k ((c.aj 17 k) + (((c.aj 17 k) * 500) / 10000))) k (c.ti 1))) - (c.aj 18 k))).ptj 2 ((c.tj 2) - (c.tj 2))).paj 17 k (((((c.aj 17 k) + (((c.aj 17 k) * 500) / 10000)) + (f_X4_flow (c.paj 17 k ((c.aj 17 k) + (((c.aj 17 k) * 500) / 10000))) k (c.ti 1))) - (c.aj 18 k)) - (c.tj 2))).paj 19 k ((c.aj 19 k) + ((c.aj 18 k) + (c.tj 2))))))) else (if (c.ti 1) < (c.ai 12 k) then ((c.aj 18 k) + ((((c.aj 17 k) + (((c.aj 17 k) * 500) / 10000)) + (f_X4_flow (c.paj 17 k ((c.aj 17 k) + (((c.aj 17 k) * 500) / 10000))) k (c.ti 1))) - (c.aj 18 k)), ((((((((c.paj 17 k ((c.aj 17 k) + (((c.aj 17 k) * 500) / 10000))).paj 17 k (((c.aj 17 k) + (((c.aj 17 k) * 500) / 10000)) + (f_X4_flow (c.paj 17 k ((c.aj 17 k) + (((c.aj 17 k) * 500) / 10000))) k (c.ti 1)))).paj 10 k (c.aj 10 k)).paj 18 k ((c.aj 18 k) - (c.aj 18 k))).paj 17 k ((((c.aj 17 k) + (((c.aj 17 k) * 500) / 10000)) + (f_X4_flow (c.paj 17 k ((c.aj 17 k) + (((c.aj 17 k) * 500) / 10000))) k (c.ti 1))) - (c.aj 18 k))).ptj 2 ((c.tj 2) - ((((c.aj 17 k) + (((c.aj 17 k) * 500) / 10000)) + (f_X4_flow (c.paj 17 k ((c.aj 17 k) + (((c.aj 17 k) * 500) / 10000))) k (c.ti 1))) - (c.aj 18 k)))).paj 17 k (((((c.aj 17 k) + (((c.aj 17 k) * 500) / 10000)) + (f_X4_flow (c.paj 17 k ((c.aj 17 k) + (((c.aj 17 k) * 500) / 10000))) k (c.ti 1))) - (c.aj 18 k)) - ((((c.aj 17 k) + (((c.aj 17 k) * 500) / 10000)) + (f_X4_flow (c.paj 17 k ((c.aj 17 k) + (((c.aj 17 k) * 500) / 10000))) k (c.ti 1))) - (c.aj 18 k)))).paj 19 k ((c.aj 19 k) + ((c.aj 18 k) + ((((c.aj 17 k) + (((c.aj 17 k) * 500) / 10000)) + (f_X4_flow (c.paj 17 k ((c.aj 17 k) + (((c.aj 17 k) * 500) / 10000))) k (c.ti 1))) - (c.aj 18 k)))))) else (if (((((c.aj 17 k) + (((c.aj 17 k) * 500) / 10000)) + (f_X4_flow (c.paj 17 k ((c.aj 17 k) + (((c.aj 17 k) * 500) / 10000))) k (c.ti 1))) - (c.aj 18 k)) - ((((c.aj 17 k) + (((c.aj 17 k) * 500) / 10000)) + (f_X4_flow (c.paj 17 k ((c.aj 17 k) + (((c.aj 17 k) * 500) / 10000))) k (c.ti 1))) - (c.aj 18 k))) = 0 then ((c.aj 18 k) + ((((c.aj 17 k) + (((c.aj 17 k) * 500) / 10000)) + (f_X4_flow (c.paj 17 k ((c.aj 17 k) + (((c.aj 17 k) * 500) / 10000))) k (c.ti 1))) - (c.aj 18 k)), (f_X4_ends ((((((((c.paj 17 k ((c.aj 17 k) + (((c.aj 17 k) * 500) / 10000))).paj 17 k (((c.aj 17 k) + (((c.aj 17 k) * 500) / 10000)) + (f_X4_flow (c.paj 17 k ((c.aj 17 k) + (((c.aj 17 k) * 500) / 10000))) k (c.ti 1)))).paj 10 k (c.aj 10 k)).paj 18 k ((c.aj 18 k) - (c.aj 18 k))).paj 17 k ((((c.aj 17 k) + (((c.aj 17 k) * 500) / 10000)) + (f_X4_flow (c.paj 17 k ((c.aj 17 k) + (((c.aj 17 k) * 500) / 10000))) k (c.ti 1))) - (c.aj 18 k))).ptj 2 ((c.tj 2) - ((((c.aj 17 k) + (((c.aj 17 k) * 500) / 10000)) + (f_X4_flow (c.paj 17 k ((c.aj 17 k) + (((c.aj 17 k) * 500) / 10000))) k (c.ti 1))) - (c.aj 18 k)))).paj 17 k (((((c.aj 17 k) + (((c.aj 17 k) * 500) / 10000)) + (f_X4_flow (c.paj 17 k ((c.aj 17 k) + (((c.aj 17 k) * 500) / 10000))) k (c.ti 1))) - (c.aj 18 k)) - ((((c.aj 17 k) + (((c.aj 17 k) * 500) / 10000)) + (f_X4_flow (c.paj 17 k ((c.aj 17 k) + (((c.aj 17 k) * 500) / 10000))) k (c.ti 1))) - (c.aj 18 k)))).paj 19 k ((c.aj 19 k) + ((c.aj 18 k) + ((((c.aj 17 k) + (((c.aj 17 k) * 500) / 10000)) + (f_X4_flow (c.paj 17 k ((c.aj 17 k) + (((c.aj 17 k) * 500) / 10000))) k (c.ti 1))) - (c.aj 18 k))))) k)) else ((c.aj 18 k) + ((((c.aj 17 k) + (((c.aj 17 k) * 500) / 10000)) + (f_X4_flow (c.paj 17 k ((c.aj 17 k) + (((c.aj 17 k) * 500) / 10000))) k (c.ti 1))) - (c.aj 18 k)), ((((((((c.paj 17 k ((c.aj 17 k) + (((c.aj 17 k) * 500) / 10000))).paj 17 k (((c.aj 17 k) + (((c.aj 17 k) * 500) / 10000)) + (f_X4_flow (c.paj 17 k ((c.aj 17 k) + (((c.aj 17 k) * 500) / 10000))) k (c.ti 1)))).paj 10 k (c.aj 10 k)).paj 18 k ((c.aj 18 k) - (c.aj 18 k))).paj 17 k ((((c.aj 17 k) + (((c.aj 17 k) * 500) / 10000)) + (f_X4_flow (c.paj 17 k ((c.aj 17 k) + (((c.aj 17 k) * 500) / 10000))) k (c.ti 1))) - (c.aj 18 k))).ptj 2 ((c.tj 2) - ((((c.aj 17 k) + (((c.aj 17 k) * 500) / 10000)) + (f_X4_flow (c.paj 17 k ((c.aj 17 k) + (((c.aj 17 k) * 500) / 10000))) k (c.ti 1))) - (c.aj 18 k)))).paj 17 k (((((c.aj 17 k) + (((c.aj 17 k) * 500) / 10000)) + (f_X4_flow (c.paj 17 k ((c.aj 17 k) + (((c.aj 17 k) * 500) / 10000))) k (c.ti 1))) - (c.aj 18 k)) - ((((c.aj 17 k) + (((c.aj 17 k) * 500) / 10000)) + (f_X4_flow (c.paj 17 k ((c.aj 17 k) + (((c.aj 17 k) * 500) / 10000))) k (c.ti 1))) - (c.aj 18 k)))).paj 19 k ((c.aj 19 k) + ((c.aj 18 k) + ((((c.aj 17 k) + (((c.aj 17 k) * 500) / 10000)) + (f_X4_flow (c.paj 17 k ((c.aj 17 k) + (((c.aj 17 k) * 500) / 10000))) k (c.ti 1))) - (c.aj 18 k))))))))) else (if (c.ti 1) < (c.ai 12 k) then ((c.aj 18 k) + 0, ((((((((c.paj 17 k ((c.aj 17 k) + (((c.aj 17 k) * 500) / 10000))).paj 17 k (((c.aj 17 k) + (((c.aj 17 k) * 500) / 10000)) + (f_X4_flow (c.paj 17 k ((c.aj 17 k) + (((c.aj 17 k) * 500) / 10000))) k (c.ti 1)))).paj 10 k (c.aj 10 k)).paj 18 k ((c.aj 18 k) - (c.aj 18 k))).paj 17 k ((((c.aj 17 k) + (((c.aj 17 k) * 500) / 10000)) + (f_X4_flow (c.paj 17 k ((c.aj 17 k) + (((c.aj 17 k) * 500) / 10000))) k (c.ti 1))) - (c.aj 18 k))).ptj 2 ((c.tj 2) - 0)).paj 17 k (((((c.aj 17 k) + (((c.aj 17 k) * 500) / 10000)) + (f_X4_flow (c.paj 17 k ((c.aj 17 k) + (((c.aj 17 k) * 500) / 10000))) k (c.ti 1))) - (c.aj 18 k)) - 0)).paj 19 k ((c.aj 19 k) + ((c.aj 18 k) + 0)))) else (if (((((c.aj 17 k) + (((c.aj 17 k) * 500) / 10000)) + (f_X4_flow (c.paj 17 k ((c.aj 17 k) + (((c.aj 17 k) * 500) / 10000))) k (c.ti 1))) - (c.aj 18 k)) - 0) = 0 then ((c.aj 18 k) + 0, (f_X4_ends ((((((((c.paj 17 k ((c.aj 17 k) + (((c.aj 17 k) * 500) / 10000))).paj 17 k (((c.aj 17 k) + (((c.aj 17 k) * 500) / 10000)) + (f_X4_flow (c.paj 17 k ((c.aj 17 k) + (((c.aj 17 k) * 500) / 10000))) k (c.ti 1)))).paj 10 k (c.aj 10 k)).paj 18 k ((c.aj 18 k) - (c.aj 18 k))).paj 17 k ((((c.aj 17 k) + (((c.aj 17 k) * 500) / 10000)) + (f_X4_flow (c.paj 17 k ((c.aj 17 k) + (((c.aj 17 k) * 500) / 10000))) k (c.ti 1))) - (c.aj 18 k))).ptj 2 ((c.tj 2) - 0)).paj 17 k (((((c.aj 17 k) + (((c.aj 17 k) * 500) / 10000)) + (f_X4_flow (c.paj 17 k ((c.aj 17 k) + (((c.aj 17 k) * 500) / 10000))) k (c.ti 1))) - (c.aj 18 k)) - 0)).paj 19 k ((c.aj 19 k) + ((c.aj 18 k) + 0))) k)) else ((c.aj 18 k) + 0, ((((((((c.paj 17 k ((c.aj 17 k) + (((c.aj 17 k) * 500) / 10000))).paj 17 k (((c.aj 17 k) + (((c.aj 17 k) * 500) / 10000)) + (f_X4_flow (c.paj 17 k ((c.aj 17 k) + (((c.aj 17 k) * 500) / 10000))) k (c.ti 1)))).paj 10 k (c.aj 10 k)).paj 18 k ((c.aj 18 k) - (c.aj 18 k))).paj 17 k ((((c.aj 17 k) + (((c.aj 17 k) * 500) / 10000)) + (f_X4_flow (c.paj 17 k ((c.aj 17 k) + (((c.aj 17 k) * 500) / 10000))) k (c.ti 1))) - (c.aj 18 k))).ptj 2 ((c.tj 2) - 0)).paj 17 k (((((c.aj 17 k) + (((c.aj 17 k) * 500) / 10000)) + (f_X4_flow (c.paj 17 k ((c.aj 17 k) + (((c.aj 17 k) * 500) / 10000))) k (c.ti 1))) - (c.aj 18 k)) - 0)).paj 19 k ((c.aj 19 k) + ((c.aj 18 k) + 0))))))) else (if (c.ti 1) < (c.ai 12 k) then ((c.aj 18 k) + 0, ((((((((c.paj 17 k ((c.aj 17 k) + (((c.aj 17 k) * 500) / 10000))).paj 17 k (((c.aj 17 k) + (((c.aj 17 k) * 500) / 10000)) + (f_X4_flow (c.paj 17 k ((c.aj 17 k) + (((c.aj 17 k) * 500) / 10000))) k (c.ti 1)))).paj 10 k (c.aj 10 k)).paj 18 k ((c.aj 18 k) - (c.aj 18 k))).paj 17 k ((((c.aj 17 k) + (((c.aj 17 k) * 500) / 10000)) + (f_X4_flow (c.paj 17 k ((c.aj 17 k) + (((c.aj 17 k) * 500) / 10000))) k (c.ti 1))) - (c.aj 18 k))).ptj 2 ((c.tj 2) - 0)).paj 17 k (((((c.aj 17 k) + (((c.aj 17 k) * 500) / 10000)) + (f_X4_flow (c.paj 17 k ((c.aj 17 k) + (((c.aj 17 k) * 500) / 10000))) k (c.ti 1))) - (c.aj 18 k)) - 0)).paj 19 k ((c.aj 19 k) + ((c.aj 18 k) + 0)))) else (if (((((c.aj 17 k) + (((c.aj 17 k) * 500) / 10000)) + (f_X4_flow (c.paj 17 k ((c.aj 17 k) + (((c.aj 17 k) * 500) / 10000))) k (c.ti 1))) - (c.aj 18 k)) - 0) = 0 then ((c.aj 18 k) + 0, (f_X4_ends ((((((((c.paj 17 k ((c.aj 17 k) + (((c.aj 17 k) * 500) / 10000))).paj 17 k (((c.aj 17 k) + (((c.aj 17 k) * 500) / 10000)) + (f_X4_flow (c.paj 17 k ((c.aj 17 k) + (((c.aj 17 k) * 500) / 10000))) k (c.ti 1)))).paj 10 k (c.aj 10 k)).paj 18 k ((c.aj 18 k) - (c.aj 18 k))).paj 17 k ((((c.aj 17 k) + (((c.aj 17 k) * 500) / 10000)) + (f_X4_flow (c.paj 17 k ((c.aj 17 k) + (((c.aj 17 k) * 500) / 10000))) k (c.ti 1))) - (c.aj 18 k))).ptj 2 ((c.tj 2) - 0)).paj 17 k (((((c.aj 17 k) + (((c.aj 17 k) * 500) / 10000)) + (f_X4_flow (c.paj 17 k ((c.aj 17 k) + (((c.aj 17 k) * 500) / 10000))) k (c.ti 1))) - (c.aj 18 k)) - 0)).paj 19 k ((c.aj 19 k) + ((c.aj 18 k) + 0))) k)) else ((c.aj 18 k) + 0, ((((((((c.paj 17 k ((c.aj 17 k) + (((c.aj 17 k) * 500) / 10000))).paj 17 k (((c.aj 17 k) + (((c.aj 17 k) * 500) / 10000)) + (f_X4_flow (c.paj 17 k ((c.aj 17 k) + (((c.aj 17 k) * 500) / 10000))) k (c.ti 1)))).paj 10 k (c.aj 10 k)).paj 18 k ((c.aj 18 k) - (c.aj 18 k))).paj 17 k ((((c.aj 17 k) + (((c.aj 17 k) * 500) / 10000)) + (f_X4_flow (c.paj 17 k ((c.aj 17 k) + (((c.aj 17 k) * 500) / 10000))) k (c.ti 1))) - (c.aj 18 k))).ptj 2 ((c.tj 2) - 0)).paj 17 k (((((c.aj 17 k) + (((c.aj 17 k) * 500) / 10000)) + (f_X4_flow (c.paj 17 k ((c.aj 17 k) + (((c.aj 17 k) * 500) / 10000))) k (c.ti 1))) - (c.aj 18 k)) - 0)).paj 19 k ((c.aj 19 k) + ((c.aj 18 k) + 0))))))) else (if (c.ai 22 (ix (c.ai 8 k))) = 0 then (if 0 ≤ (c.tj 2) then (if (c.tj 2) ≤ ((((c.aj 17 k) + (((c.aj 17 k) * 500) / 10000)) + (f_X4_flow (c.paj 17 k ((c.aj 17 k) + (((c.aj 17 k) * 500) / 10000))) k (c.ti 1))) - (((c.aj 17 k) + (((c.aj 17 k) * 500) / 10000)) + (f_X4_flow (c.paj 17 k ((c.aj 17 k) + (((c.aj 17 k) * 500) / 10000))) k (c.ti 1)))) then (if (c.ti 1) < (c.ai 12 k) then ((((c.aj 17 k) + (((c.aj 17 k) * 500) / 10000)) + (f_X4_flow (c.paj 17 k ((c.aj 17 k) + (((c.aj 17 k) * 500) / 10000))) k (c.ti 1))) + (c.tj 2), ((((((((c.paj 17 k ((c.aj 17 k) + (((c.aj 17 k) * 500) / 10000))).paj 17 k (((c.aj 17 k) + (((c.aj 17 k) * 500) / 10000)) + (f_X4_flow (c.paj 17 k ((c.aj 17 k) + (((c.aj 17 k) * 500) / 10000))) k (c.ti 1)))).paj 10 k (c.aj 10 k)).paj 18 k ((c.aj 18 k) - (((c.aj 17 k) + (((c.aj 17 k) * 500) / 10000)) + (f_X4_flow (c.paj 17 k ((c.aj 17 k) + (((c.aj 17 k) * 500) / 10000))) k (c.ti 1))))).paj 17 k ((((c.aj 17 k) + (((c.aj 17 k) * 500) / 10000)) + (f_X4_flow (c.paj 17 k ((c.aj 17 k) + (((c.aj 17 k) * 500) / 10000))) k (c.ti 1))) - (((c.aj 17 k) + (((c.aj 17 k) * 500) / 10000)) + (f_X4_flow (c.paj 17 k ((c.aj 17 k) + (((c.aj 17 k) * 500) / 10000))) k (c.ti 1))))).ptj 2 ((c.tj 2) - (c.tj 2))).paj 17 k (((((c.aj 17 k) + (((c.aj 17 k) * 500) / 10000)) + (f_X4_flow (c.paj 17 k ((c.aj 17 k) + (((c.aj 17 k) * 500) / 10000))) k (c.ti 1))) - (((c.aj 17 k) + (((c.aj 17 k) * 500) / 10000)) + (f_X4_flow (c.paj 17 k ((c.aj 17 k) + (((c.aj 17 k) * 500) / 10000))) k (c.ti 1)))) - (c.tj 2))).paj 19 k ((c.aj 19 k) + ((((c.aj 17 k) + (((c.aj 17 k) * 500) / 10000)) + (f_X4_flow (c.paj 17 k ((c.aj 17 k) + (((c.aj 17 k) * 500) / 10000))) k (c.ti 1))) + (c.tj 2))))) else (if (((((c.aj 17 k) + (((c.aj 17 k) * 500) / 10000)) + (f_X4_flow (c.paj 17 k ((c.aj 17 k) + (((c.aj 17 k) * 500) / 10000))) k (c.ti 1))) - (((c.aj 17 k) + (((c.aj 17 k) * 500) / 10000)) + (f_X4_flow (c.paj 17 k ((c.aj 17 k) + (((c.aj 17 k) * 500) / 10000))) k (c.ti 1)))) - (c.tj 2)) = 0 then ((((c.aj 17 k) + (((c.aj 17 k) * 500) / 10000)) + (f_X4_flow (c.paj 17 k ((c.aj 17 k) + (((c.aj 17 k) * 500) / 10000))) k (c.ti 1))) + (c.tj 2), (f_X4_ends ((((((((c.paj 17 k ((c.aj 17 k) + (((c.aj 17 k) * 500) / 10000))).paj 17 k (((c.aj 17 k) + (((c.aj 17 k) * 500) / 10000)) + (f_X4_flow (c.paj 17 k ((c.aj 17 k) + (((c.aj 17 k) * 500) / 10000))) k (c.ti 1)))).paj 10 k (c.aj 10 k)).paj 18 k ((c.aj 18 k) - (((c.aj 17 k) + (((c.aj 17 k) * 500) / 10000)) + (f_X4_flow (c.paj 17 k ((c.aj 17 k) + (((c.aj 17 k) * 500) / 10000))) k (c.ti 1))))).paj 17 k ((((c.aj 17 k) + (((c.aj 17 k) * 500) / 10000)) + (f_X4_flow (c.paj 17 k ((c.aj 17 k) + (((c.aj 17 k) * 500) / 10000))) k (c.ti 1))) - (((c.aj 17 k) + (((c.aj 17 k) * 500) / 10000)) + (f_X4_flow (c.paj 17 k ((c.aj 17 k) + (((c.aj 17 k) * 500) / 10000))) k (c.ti 1))))).ptj 2 ((c.tj 2) - (c.tj 2))).paj 17 k (((((c.aj 17 k) + (((c.aj 17 k) * 500) / 10000)) + (f_X4_flow (c.paj 17 k ((c.aj 17 k) + (((c.aj 17 k) * 500) / 10000))) k (c.ti 1))) - (((c.aj 17 k) + (((c.aj 17 k) * 500) / 10000)) + (f_X4_flow (c.paj 17 k ((c.aj 17 k) + (((c.aj 17 k) * 500) / 10000))) k (c.ti 1)))) - (c.tj 2))).paj 19 k ((c.aj 19 k) + ((((c.aj 17 k) + (((c.aj 17 k) * 500) / 10000)) + (f_X4_flow (c.paj 17 k ((c.aj 17 k) + (((c.aj 17 k) * 500) / 10000))) k (c.ti 1))) + (c.tj 2)))) k)) else ((((c.aj 17 k) + (((c.aj 17 k) * 500) / 10000)) + (f_X4_flow (c.paj 17 k ((c.aj 17 k) + (((c.aj 17 k) * 500) / 10000))) k (c.ti 1))) + (c.tj 2), ((((((((c.paj 17 k ((c.aj 17 k) + (((c.aj 17 k) * 500) / 10000))).paj 17 k (((c.aj 17 k) + (((c.aj 17 k) * 500) / 10000)) + (f_X4_flow (c.paj 17 k ((c.aj 17 k) + (((c.aj 17 k) * 500) / 10000))) k (c.ti 1)))).paj 10 k (c.aj 10 k)).paj 18 k ((c.aj 18 k) - (((c.aj 17 k) + (((c.aj 17 k) * 500) / 10000)) + (f_X4_flow (c.paj 17 k ((c.aj 17 k) + (((c.aj 17 k) * 500) / 10000))) k (c.ti 1))))).paj 17 k ((((c.aj 17 k) + (((c.aj 17 k) * 500) / 10000)) + (f_X4_flow (c.paj 17 k ((c.aj 17 k) + (((c.aj 17 k) * 500) / 10000))) k (c.ti 1))) - (((c.aj 17 k) + (((c.aj 17 k) * 500) / 10000)) + (f_X4_flow (c.paj 17 k ((c.aj 17 k) + (((c.aj 17 k) * 500) / 10000))) k (c.ti 1))))).ptj 2 ((c.tj 2) - (c.tj 2))).paj 17 k (((((c.aj 17 k) + (((c.aj 17 k) * 500) / 10000)) + (f_X4_flow (c.paj 17 k ((c.aj 17 k) + (((c.aj 17 k) * 500) / 10000))) k (c.ti 1))) - (((c.aj 17 k) + (((c.aj 17 k) * 500) / 10000)) + (f_X4_flow (c.paj 17 k ((c.aj 17 k) + (((c.aj 17 k) * 500) / 10000))) k (c.ti 1)))) - (c.tj 2))).paj 19 k ((c.aj 19 k) + ((((c.aj 17 k) + (((c.aj 17 k) * 500) / 10000)) + (f_X4_flow (c.paj 17 k ((c.aj 17 k) + (((c.aj 17 k) * 500) / 10000))) k (c.ti 1))) + (c.tj 2))))))) else (if (c.ti 1) < (c.ai 12 k) then ((((c.aj 17 k) + (((c.aj 17 k) * 500) / 10000)) + (f_X4_flow (c.paj 17 k ((c.aj 17 k) + (((c.aj 17 k) * 500) / 10000))) k (c.ti 1))) + ((((c.aj 17 k) + (((c.aj 17 k) * 500) / 10000)) + (f_X4_flow (c.paj 17 k ((c.aj 17 k) + (((c.aj 17 k) * 500) / 10000))) k (c.ti 1))) - (((c.aj 17 k) + (((c.aj 17 k) * 500) / 10000)) + (f_X4_flow (c.paj 17 k ((c.aj 17 k) + (((c.aj 17 k) * 500) / 10000))) k (c.ti 1)))), ((((((((c.paj 17 k ((c.aj 17 k) + (((c.aj 17 k) * 500) / 10000))).paj 17 k (((c.aj 17 k) + (((c.aj 17 k) * 500) / 10000)) + (f_X4_flow (c.paj 17 k ((c.aj 17 k) + (((c.aj 17 k) * 500) / 10000))) k (c.ti 1)))).paj 10 k (c.aj 10 k)).paj 18 k ((c.aj 18 k) - (((c.aj 17 k) + (((c.aj 17 k) * 500) / 10000)) + (f_X4_flow (c.paj 17 k ((c.aj 17 k) + (((c.aj 17 k) * 500) / 10000))) k (c.ti 1))))).paj 17 k ((((c.aj 17 k) + (((c.aj 17 k) * 500) / 10000)) + (f_X4_flow (c.paj 17 k ((c.aj 17 k) + (((c.aj 17 k) * 500) / 10000))) k (c.ti 1))) - (((c.aj 17 k) + (((c.aj 17 k) * 500) / 10000)) + (f_X4_flow (c.paj 17 k ((c.aj 17 k) + (((c.aj 17 k) * 500) / 10000))) k (c.ti 1))))).ptj 2 ((c.tj 2) - ((((c.aj 17 k) + (((c.aj 17 k) * 500) / 10000)) + (f_X4_flow (c.paj 17 k ((c.aj 17 k) + (((c.aj 17 k) * 500) / 10000))) k (c.ti 1))) - (((c.aj 17 k) + (((c.aj 17 k) * 500) / 10000)) + (f_X4_flow (c.paj 17 k ((c.aj 17 k) + (((c.aj 17 k) * 500) / 10000))) k (c.ti 1)))))).paj 17 k (((((c.aj 17 k) + (((c.aj 17 k) * 500) / 10000)) + (f_X4_flow (c.paj 17 k ((c.aj 17 k) + (((c.aj 17 k) * 500) / 10000))) k (c.ti 1))) - (((c.aj 17 k) + (((c.aj 17 k) * 500) / 10000)) + (f_X4_flow (c.paj 17 k ((c.aj 17 k) + (((c.aj 17 k) * 500) / 10000))) k (c.ti 1)))) - ((((c.aj 17 k) + (((c.aj 17 k) * 500) / 10000)) + (f_X4_flow (c.paj 17 k ((c.aj 17 k) + (((c.aj 17 k) * 500) / 10000))) k (c.ti 1))) - (((c.aj 17 k) + (((c.aj 17 k) * 500) / 10000)) + (f_X4_flow (c.paj 17 k ((c.aj 17 k) + (((c.aj 17 k) * 500) / 10000))) k (c.ti 1)))))).paj 19 k ((c.aj 19 k) + ((((c.aj 17 k) + (((c.aj 17 k) * 500) / 10000)) + (f_X4_flow (c.paj 17 k ((c.aj 17 k) + (((c.aj 17 k) * 500) / 10000))) k (c.ti 1))) + ((((c.aj 17 k) + (((c.aj 17 k) * 500) / 10000)) + (f_X4_flow (c.paj 17 k ((c.aj 17 k) + (((c.aj 17 k) * 500) / 10000))) k (c.ti 1))) - (((c.aj 17 k) + (((c.aj 17 k) * 500) / 10000)) + (f_X4_flow (c.paj 17 k ((c.aj 17 k) + (((c.aj 17 k) * 500) / 10000))) k (c.ti 1)))))))) else (if (((((c.aj 17 k) + (((c.aj 17 k) * 500) / 10000)) + (f_X4_flow (c.paj 17 k ((c.aj 17 k) + (((c.aj 17 k) * 500) / 10000))) k (c.ti 1))) - (((c.aj 17 k) + (((c.aj 17 k) * 500) / 10000)) + (f_X4_flow (c.paj 17 k ((c.aj 17 k) + (((c.aj 17 k) * 500) / 10000))) k (c.ti 1)))) - ((((c.aj 17 k) + (((c.aj 17 k) * 500) / 10000)) + (f_X4_flow (c.paj 17 k ((c.aj 17 k) + (((c.aj 17 k) * 500) / 10000))) k (c.ti 1))) - (((c.aj 17 k) + (((c.aj 17 k) * 500) / 10000)) + (f_X4_flow (c.paj 17 k ((c.aj 17 k) + (((c.aj 17 k) * 500) / 10000))) k (c.ti 1))))) = 0 then ((((c.aj 17 k) + (((c.aj 17 k) * 500) / 10000)) + (f_X4_flow (c.paj 17 k ((c.aj 17 k) + (((c.aj 17 k) * 500) / 10000))) k (c.ti 1))) + ((((c.aj 17 k) + (((c.aj 17 k) * 500) / 10000)) + (f_X4_flow (c.paj 17 k ((c.aj 17 k) + (((c.aj 17 k) * 500) / 10000))) k (c.ti 1))) - (((c.aj 17 k) + (((c.aj 17 k) * 500) / 10000)) + (f_X4_flow (c.paj 17 k ((c.aj 17 k) + (((c.aj 17 k) * 500) / 10000))) k (c.ti 1)))), (f_X4_ends ((((((((c.paj 17 k ((c.aj 17 k) + (((c.aj 17 k) * 500) / 10000))).paj 17 k (((c.aj 17 k) + (((c.aj 17 k) * 500) / 10000)) + (f_X4_flow (c.paj 17 k ((c.aj 17 k) + (((c.aj 17 k) * 500) / 10000))) k (c.ti 1)))).paj 10 k (c.aj 10 k)).paj 18 k ((c.aj 18 k) - (((c.aj 17 k) + (((c.aj 17 k) * 500) / 10000)) + (f_X4_flow (c.paj 17 k ((c.aj 17 k) + (((c.aj 17 k) * 500) / 10000))) k (c.ti 1))))).paj 17 k ((((c.aj 17 k) + (((c.aj 17 k) * 500) / 10000)) + (f_X4_flow (c.paj 17 k ((c.aj 17 k) + (((c.aj 17 k) * 500) / 10000))) k (c.ti 1))) - (((c.aj 17 k) + (((c.aj 17 k) * 500) / 10000)) + (f_X4_flow (c.paj 17 k ((c.aj 17 k) + (((c.aj 17 k) * 500) / 10000))) k (c.ti 1))))).ptj 2 ((c.tj 2) - ((((c.aj 17 k) + (((c.aj 17 k) * 500) / 10000)) + (f_X4_flow (c.paj 17 k ((c.aj 17 k) + (((c.aj 17 k) * 500) / 10000))) k (c.ti 1))) - (((c.aj 17 k) + (((c.aj 17 k) * 500) / 10000)) + (f_X4_flow (c.paj 17 k ((c.aj 17 k) + (((c.aj 17 k) * 500) / 10000))) k (c.ti 1)))))).paj 17 k (((((c.aj 17 k) + (((c.aj 17 k) * 500) / 10000)) + (f_X4_flow (c.paj 17 k ((c.aj 17 k) + (((c.aj 17 k) * 500) / 10000))) k (c.ti 1))) - (((c.aj 17 k) + (((c.aj 17 k) * 500) / 10000)) + (f_X4_flow (c.paj 17 k ((c.aj 17 k) + (((c.aj 17 k) * 500) / 10000))) k (c.ti 1)))) - ((((c.aj 17 k) + (((c.aj 17 k) * 500) / 10000)) + (f_X4_flow (c.paj 17 k ((c.aj 17 k) + (((c.aj 17 k) * 500) / 10000))) k (c.ti 1))) - (((c.aj 17 k) + (((c.aj 17 k) * 500) / 10000)) + (f_X4_flow (c.paj 17 k ((c.aj 17 k) + (((c.aj 17 k) * 500) / 10000))) k (c.ti 1)))))).paj 19 k ((c.aj 19 k) + ((((c.aj 17 k) + (((c.aj 17 k) * 500) / 10000)) + (f_X4_flow (c.paj 17 k ((c.aj 17 k) + (((c.aj 17 k) * 500) / 10000))) k (c.ti 1))) + ((((c.aj 17 k) + (((c.aj 17 k) * 500) / 10000)) + (f_X4_flow (c.paj 17 k ((c.aj 17 k) + (((c.aj 17 k) * 500) / 10000))) k (c.ti 1))) - (((c.aj 17 k) + (((c.aj 17 k) * 500) / 10000)) + (f_X4_flow (c.paj 17 k ((c.aj 17 k) + (((c.aj 17 k) * 500) / 10000))) k (c.ti 1))))))) k)) else ((((c.aj 17 k) + (((c.aj 17 k) * 500) / 10000)) + (f_X4_flow (c.paj 17 k ((c.aj 17 k) + (((c.aj 17 k) * 500) / 10000))) k (c.ti 1))) + ((((c.aj 17 k) + (((c.aj 17 k) * 500) / 10000)) + (f_X4_flow (c.paj 17 k ((c.aj 17 k) + (((c.aj 17 k) * 500) / 10000))) k (c.ti 1))) - (((c.aj 17 k) + (((c.aj 17 k) * 500) / 10000)) + (f_X4_flow (c.paj 17 k ((c.aj 17 k) + (((c.aj 17 k) * 500) / 10000))) k (c.ti 1)))), ((((((((c.paj 17 k ((c.aj 17 k) + (((c.aj 17 k) * 500) / 10000))).paj 17 k (((c.aj 17 k) + (((c.aj 17 k) * 500) / 10000)) + (f_X4_flow (c.paj 17 k ((c.aj 17 k) + (((c.aj 17 k) * 500) / 10000))) k (c.ti 1)))).paj 10 k (c.aj 10 k)).paj 18 k ((c.aj 18 k) - (((c.aj 17 k) + (((c.aj 17 k) * 500) / 10000)) + (f_X4_flow (c.paj 17 k ((c.aj 17 k) + (((c.aj 17 k) * 500) / 10000))) k (c.ti 1))))).paj 17 k ((((c.aj 17 k) + (((c.aj 17 k) * 500) / 10000)) + (f_X4_flow (c.paj 17 k ((c.aj 17 k) + (((c.aj 17 k) * 500) / 10000))) k (c.ti 1))) - (((c.aj 17 k) + (((c.aj 17 k) * 500) / 10000)) + (f_X4_flow (c.paj 17 k ((c.aj 17 k) + (((c.aj 17 k) * 500) / 10000))) k (c.ti 1))))).ptj 2 ((c.tj 2) - ((((c.aj 17 k) + (((c.aj 17 k) * 500) / 10000)) + (f_X4_flow (c.paj 17 k ((c.aj 17 k) + (((c.aj 17 k) * 500) / 10000))) k (c.ti 1))) - (((c.aj 17 k) + (((c.aj 17 k) * 500) / 10000)) + (f_X4_flow (c.paj 17 k ((c.aj 17 k) + (((c.aj 17 k) * 500) / 10000))) k (c.ti 1)))))).paj 17 k (((((c.aj 17 k) + (((c.aj 17 k) * 500) / 10000)) + (f_X4_flow (c.paj 17 k ((c.aj 17 k) + (((c.aj 17 k) * 500) / 10000))) k (c.ti 1))) - (((c.aj 17 k) + (((c.aj 17 k) * 500) / 10000)) + (f_X4_flow (c.paj 17 k ((c.aj 17 k) + (((c.aj 17 k) * 500) / 10000))) k (c.ti 1)))) - ((((c.aj 17 k) + (((c.aj 17 k) * 500) / 10000)) + (f_X4_flow (c.paj 17 k ((c.aj 17 k) + (((c.aj 17 k) * 500) / 10000))) k (c.ti 1))) - (((c.aj 17 k) + (((c.aj 17 k) * 500) / 10000)) + (f_X4_flow (c.paj 17 k ((c.aj 17 k) + (((c.aj 17 k) * 500) / 10000))) k (c.ti 1)))))).paj 19 k ((c.aj 19 k) + ((((c.aj 17 k) + (((c.aj 17 k) * 500) / 10000)) + (f_X4_flow (c.paj 17 k ((c.aj 17 k) + (((c.aj 17 k) * 500) / 10000))) k (c.ti 1))) + ((((c.aj 17 k) + (((c.aj 17 k) * 500) / 10000)) + (f_X4_flow (c.paj 17 k ((c.aj 17 k) + (((c.aj 17 k) * 500) / 10000))) k (c.ti 1))) - (((c.aj 17 k) + (((c.aj 17 k) * 500) / 10000)) + (f_X4_flow (c.paj 17 k ((c.aj 17 k) + (((c.aj 17 k) * 500) / 10000))) k (c.ti 1))))))))))) else (if (c.ti 1) < (c.ai 12 k) then ((((c.aj 17 k) + (((c.aj 17 k) * 500) / 10000)) + (f_X4_flow (c.paj 17 k ((c.aj 17 k) + (((c.aj 17 k) * 500) / 10000))) k (c.ti 1))) + 0, ((((((((c.paj 17 k ((c.aj 17 k) + (((c.aj 17 k) * 500) / 10000))).paj 17 k (((c.aj 17 k) + (((c.aj 17 k) * 500) / 10000)) + (f_X4_flow (c.paj 17 k ((c.aj 17 k) + (((c.aj 17 k) * 500) / 10000))) k (c.ti 1)))).paj 10 k (c.aj 10 k)).paj 18 k ((c.aj 18 k) - (((c.aj 17 k) + (((c.aj 17 k) * 500) / 10000)) + (f_X4_flow (c.paj 17 k ((c.aj 17 k) + (((c.aj 17 k) * 500) / 10000))) k (c.ti 1))))).paj 17 k ((((c.aj 17 k) + (((c.aj 17 k) * 500) / 10000)) + (f_X4_flow (c.paj 17 k ((c.aj 17 k) + (((c.aj 17 k) * 500) / 10000))) k (c.ti 1))) - (((c.aj 17 k) + (((c.aj 17 k) * 500) / 10000)) + (f_X4_flow (c.paj 17 k ((c.aj 17 k) + (((c.aj 17 k) * 500) / 10000))) k (c.ti 1))))).ptj 2 ((c.tj 2) - 0)).paj 17 k (((((c.aj 17 k) + (((c.aj 17 k) * 500) / 10000)) + (f_X4_flow (c.paj 17 k ((c.aj 17 k) + (((c.aj 17 k) * 500) / 10000))) k (c.ti 1))) - (((c.aj 17 k) + (((c.aj 17 k) * 500) / 10000)) + (f_X4_flow (c.paj 17 k ((c.aj 17 k) + (((c.aj 17 k) * 500) / 10000))) k (c.ti 1)))) - 0)).paj 19 k ((c.aj 19 k) + ((((c.aj 17 k) + (((c.aj 17 k) * 500) / 10000)) + (f_X4_flow (c.paj 17 k ((c.aj 17 k) + (((c.aj 17 k) * 500) / 10000))) k (c.ti 1))) + 0)))) else (if (((((c.aj 17 k) + (((c.aj 17 k) * 500) / 10000)) + (f_X4_flow (c.paj 17 k ((c.aj 17 k) + (((c.aj 17 k) * 500) / 10000))) k (c.ti 1))) - (((c.aj 17 k) + (((c.aj 17 k) * 500) / 10000)) + (f_X4_flow (c.paj 17 k ((c.aj 17 k) + (((c.aj 17 k) * 500) / 10000))) k (c.ti 1)))) - 0) = 0 then ((((c.aj 17 k) + (((c.aj 17 k) * 500) / 10000)) + (f_X4_flow (c.paj 17 k ((c.aj 17 k) + (((c.aj 17 k) * 500) / 10000))) k (c.ti 1))) + 0, (f_X4_ends ((((((((c.paj 17 k ((c.aj 17 k) + (((c.aj 17 k) * 500) / 10000))).paj 17 k (((c.aj 17 k) + (((c.aj 17 k) * 500) / 10000)) + (f_X4_flow (c.paj 17 k ((c.aj 17 k) + (((c.aj 17 k) * 500) / 10000))) k (c.ti 1)))).paj 10 k (c.aj 10 k)).paj 18 k ((c.aj 18 k) - (((c.aj 17 k) + (((c.aj 17 k) * 500) / 10000)) + (f_X4_flow (c.paj 17 k ((c.aj 17 k) + (((c.aj 17 k) * 500) / 10000))) k (c.ti 1))))).paj 17 k ((((c.aj 17 k) + (((c.aj 17 k) * 500) / 10000)) + (f_X4_flow (c.paj 17 k ((c.aj 17 k) + (((c.aj 17 k) * 500) / 10000))) k (c.ti 1))) - (((c.aj 17 k) + (((c.aj 17 k) * 500) / 10000)) + (f_X4_flow (c.paj 17 k ((c.aj 17 k) + (((c.aj 17 k) * 500) / 10000))) k (c.ti 1))))).ptj 2 ((c.tj 2) - 0)).paj 17 k (((((c.aj 17 k) + (((c.aj 17 k) * 500) / 10000)) + (f_X4_flow (c.paj 17 k ((c.aj 17 k) + (((c.aj 17 k) * 500) / 10000))) k (c.ti 1))) - (((c.aj 17 k) + (((c.aj 17 k) * 500) / 10000)) + (f_X4_flow (c.paj 17 k ((c.aj 17 k) + (((c.aj 17 k) * 500) / 10000))) k (c.ti 1)))) - 0)).paj 19 k ((c.aj 19 k) + ((((c.aj 17 k) + (((c.aj 17 k) * 500) / 10000)) + (f_X4_flow (c.paj 17 k ((c.aj 17 k) + (((c.aj 17 k) * 500) / 10000))) k (c.ti 1))) + 0))) k)) else ((((c.aj 17 k) + (((c.aj 17 k) * 500) / 10000)) + (f_X4_flow (c.paj 17 k ((c.aj 17 k) + (((c.aj 17 k) * 500) / 10000))) k (c.ti 1))) + 0, ((((((((c.paj 17 k ((c.aj 17 k) + (((c.aj 17 k) * 500) / 10000))).paj 17 k (((c.aj 17 k) + (((c.aj 17 k) * 500) / 10000)) + (f_X4_flow (c.paj 17 k ((c.aj 17 k) + (((c.aj 17 k) * 500) / 10000))) k (c.ti 1)))).paj 10 k (c.aj 10 k)).paj 18 k ((c.aj 18 k) - (((c.aj 17 k) + (((c.aj 17 k) * 500) / 10000)) + (f_X4_flow (c.paj 17 k ((c.aj 17 k) + (((c.aj 17 k) * 500) / 10000))) k (c.ti 1))))).paj 17 k ((((c.aj 17 k) + (((c.aj 17 k) * 500) / 10000)) + (f_X4_flow (c.paj 17 k ((c.aj 17 k) + (((c.aj 17 k) * 500) / 10000))) k (c.ti 1))) - (((c.aj 17 k) + (((c.aj 17 k) * 500) / 10000)) + (f_X4_flow (c.paj 17 k ((c.aj 17 k) + (((c.aj 17 k) * 500) / 10000))) k (c.ti 1))))).ptj 2 ((c.tj 2) - 0)).paj 17 k (((((c.aj 17 k) + (((c.aj 17 k) * 500) / 10000)) + (f_X4_flow (c.paj 17 k ((c.aj 17 k) + (((c.aj 17 k) * 500) / 10000))) k (c.ti 1))) - (((c.aj 17 k) + (((c.aj 17 k) * 500) / 10000)) + (f_X4_flow (c.paj 17 k ((c.aj 17 k) + (((c.aj 17 k) * 500) / 10000))) k (c.ti 1)))) - 0)).paj 19 k ((c.aj 19 k) + ((((c.aj 17 k) + (((c.aj 17 k) * 500) / 10000)) + (f_X4_flow (c.paj 17 k ((c.aj 17 k) + (((c.aj 17 k) * 500) / 10000))) k (c.ti 1))) + 0))))))) else (if (c.ti 1) < (c.ai 12 k) then ((((c.aj 17 k) + (((c.aj 17 k) * 500) / 10000)) + (f_X4_flow (c.paj 17 k ((c.aj 17 k) + (((c.aj 17 k) * 500) / 10000))) k (c.ti 1))) + 0, ((((((((c.paj 17 k ((c.aj 17 k) + (((c.aj 17 k) * 500) / 10000))).paj 17 k (((c.aj 17 k) + (((c.aj 17 k) * 500) / 10000)) + (f_X4_flow (c.paj 17 k ((c.aj 17 k) + (((c.aj 17 k) * 500) / 10000))) k (c.ti 1)))).paj 10 k (c.aj 10 k)).paj 18 k ((c.aj 18 k) - (((c.aj 17 k) + (((c.aj 17 k) * 500) / 10000)) + (f_X4_flow (c.paj 17 k ((c.aj 17 k) + (((c.aj 17 k) * 500) / 10000))) k (c.ti 1))))).paj 17 k ((((c.aj 17 k) + (((c.aj 17 k) * 500) / 10000)) + (f_X4_flow (c.paj 17 k ((c.aj 17 k) + (((c.aj 17 k) * 500) / 10000))) k (c.ti 1))) - (((c.aj 17 k) + (((c.aj 17 k) * 500) / 10000)) + (f_X4_flow (c.paj 17 k ((c.aj 17 k) + (((c.aj 17 k) * 500) / 10000))) k (c.ti 1))))).ptj 2 ((c.tj 2) - 0)).paj 17 k (((((c.aj 17 k) + (((c.aj 17 k) * 500) / 10000)) + (f_X4_flow (c.paj 17 k ((c.aj 17 k) + (((c.aj 17 k) * 500) / 10000))) k (c.ti 1))) - (((c.aj 17 k) + (((c.aj 17 k) * 500) / 10000)) + (f_X4_flow (c.paj 17 k ((c.aj 17 k) + (((c.aj 17 k) * 500) / 10000))) k (c.ti 1)))) - 0)).paj 19 k ((c.aj 19 k) + ((((c.aj 17 k) + (((c.aj 17 k) * 500) / 10000)) + (f_X4_flow (c.paj 17 k ((c.aj 17 k) + (((c.aj 17 k) * 500) / 10000))) k (c.ti 1))) + 0)))) else (if (((((c.aj 17 k) + (((c.aj 17 k) * 500) / 10000)) + (f_X4_flow (c.paj 17 k ((c.aj 17 k) + (((c.aj 17 k) * 500) / 10000))) k (c.ti 1))) - (((c.aj 17 k) + (((c.aj 17 k) * 500) / 10000)) + (f_X4_flow (c.paj 17 k ((c.aj 17 k) + (((c.aj 17 k) * 500) / 10000))) k (c.ti 1)))) - 0) = 0 then ((((c.aj 17 k) + (((c.aj 17 k) * 500) / 10000)) + (f_X4_flow (c.paj 17 k ((c.aj 17 k) + (((c.aj 17 k) * 500) / 10000))) k (c.ti 1))) + 0, (f_X4_ends ((((((((c.paj 17 k ((c.aj 17 k) + (((c.aj 17 k) * 500) / 10000))).paj 17 k (((c.aj 17 k) + (((c.aj 17 k) * 500) / 10000)) + (f_X4_flow (c.paj 17 k ((c.aj 17 k) + (((c.aj 17 k) * 500) / 10000))) k (c.ti 1)))).paj 10 k (c.aj 10 k)).paj 18 k ((c.aj 18 k) - (((c.aj 17 k) + (((c.aj 17 k) * 500) / 10000)) + (f_X4_flow (c.paj 17 k ((c.aj 17 k) + (((c.aj 17 k) * 500) / 10000))) k (c.ti 1))))).paj 17 k ((((c.aj 17 k) + (((c.aj 17 k) * 500) / 10000)) + (f_X4_flow (c.paj 17 k ((c.aj 17 k) + (((c.aj 17 k) * 500) / 10000))) k (c.ti 1))) - (((c.aj 17 k) + (((c.aj 17 k) * 500) / 10000)) + (f_X4_flow (c.paj 17 k ((c.aj 17 k) + (((c.aj 17 k) * 500) / 10000))) k (c.ti 1))))).ptj 2 ((c.tj 2) - 0)).paj 17 k (((((c.aj 17 k) + (((c.aj 17 k) * 500) / 10000)) + (f_X4_flow (c.paj 17 k ((c.aj 17 k) + (((c.aj 17 k) * 500) / 10000))) k (c.ti 1))) - (((c.aj 17 k) + (((c.aj 17 k) * 500) / 10000)) + (f_X4_flow (c.paj 17 k ((c.aj 17 k) + (((c.aj 17 k) * 500) / 10000))) k (c.ti 1)))) - 0)).paj 19 k ((c.aj 19 k) + ((((c.aj 17 k) + (((c.aj 17 k) * 500) / 10000)) + (f_X4_flow (c.paj 17 k ((c.aj 17 k) + (((c.aj 17 k) * 500) / 10000))) k (c.ti 1))) + 0))) k)) else ((((c.aj 17 k) + (((c.aj 17 k) * 500) / 10000)) + (f_X4_flow (c.paj 17 k ((c.aj 17 k) + (((c.aj 17 k) * 500) / 10000))) k (c.ti 1))) + 0, ((((((((c.paj 17 k ((c.aj 17 k) + (((c.aj 17 k) * 500) / 10000))).paj 17 k (((c.aj 17 k) + (((c.aj 17 k) * 500) / 10000)) + (f_X4_flow (c.paj 17 k ((c.aj 17 k) + (((c.aj 17 k) * 500) / 10000))) k (c.ti 1)))).paj 10 k (c.aj 10 k)).paj 18 k ((c.aj 18 k) - (((c.aj 17 k) + (((c.aj 17 k) * 500) / 10000)) + (f_X4_flow (c.paj 17 k ((c.aj 17 k) + (((c.aj 17 k) * 500) / 10000))) k (c.ti 1))))).paj 17 k ((((c.aj 17 k) + (((c.aj 17 k) * 500) / 10000)) + (f_X4_flow (c.paj 17 k ((c.aj 17 k) + (((c.aj 17 k) * 500) / 10000))) k (c.ti 1))) - (((c.aj 17 k) + (((c.aj 17 k) * 500) / 10000)) + (f_X4_flow (c.paj 17 k ((c.aj 17 k) + (((c.aj 17 k) * 500) / 10000))) k (c.ti 1))))).ptj 2 ((c.tj 2) - 0)).paj 17 k (((((c.aj 17 k) + (((c.aj 17 k) * 500) / 10000)) + (f_X4_flow (c.paj 17 k ((c.aj 17 k) + (((c.aj 17 k) * 500) / 10000))) k (c.ti 1))) - (((c.aj 17 k) + (((c.aj 17 k) * 500) / 10000)) + (f_X4_flow (c.paj 17 k ((c.aj 17 k) + (((c.aj 17 k) * 500) / 10000))) k (c.ti 1)))) - 0)).paj 19 k ((c.aj 19 k) + ((((c.aj 17 k) + (((c.aj 17 k) * 500) / 10000)) + (f_X4_flow (c.paj 17 k ((c.aj 17 k) + (((c.aj 17 k) * 500) / 10000))) k (c.ti 1))) + 0)))))))))
set_option maxHeartbeats 4000000 in
theorem m_X4_looksAt {tm : Nat × Nat} {S : Sto} {w : MAd} {c : MC} {k : Nat} (hW : MW S w c) (hk : k < 40) (hK : inr (c.ai 8 k) 5) : Ev tm M_X4_looksAt [.ref w.mm, .int (nI k)] S (NJ w S (f_X4_looksAt c k)) := by
  have hF : FrM S S := FrM.rf
  refine ev_in ok_X4_looksAt (Nat.le_of_ble_eq_true rfl) ?_
  refine s_lconst (v := 0) dX4_looksAt_0 (by decide) ?_
  refine s_lstoren dX4_looksAt_1 rfl (by decide) ?_
  refine s_aloadn dX4_looksAt_2 rfl rfl ?_
  refine s_getR (n := 70) dX4_looksAt_3 rfl hW.mm (fun _ _ _ => rfl) (hW.rr 9 (by decide)).1 ?_
  refine s_iloadn dX4_looksAt_6 rfl rfl ?_
  refine s_iald' (j := k) dX4_looksAt_7 ((hW.rr 9 (by decide)).2.1) rfl (by rw [(hW.rr 9 (by decide)).2.2]; exact hk) (by rw [(hW.rr 9 (by decide)).2.2]; decide) ?_
  rw [hW.ai 9 (by decide)]
  refine s_ifeq (tgt := 230) dX4_looksAt_8 (by decide) (fun c_8 => ?_) (fun c_8 => ?_)
  · skip
    refine s_aloadn dX4_looksAt_230 rfl rfl ?_
    refine s_getR (n := 73) dX4_looksAt_231 rfl hW.mm (fun _ _ _ => rfl) (hW.rr 12 (by decide)).1 ?_
    refine s_iloadn dX4_looksAt_234 rfl rfl ?_
    refine s_iald' (j := k) dX4_looksAt_235 ((hW.rr 12 (by decide)).2.1) rfl (by rw [(hW.rr 12 (by decide)).2.2]; exact hk) (by rw [(hW.rr 12 (by decide)).2.2]; decide) ?_
    rw [hW.ai 12 (by decide)]
    refine s_aloadn dX4_looksAt_236 rfl rfl ?_
    refine s_get (v := .int (c.ti 1)) (n := 62) dX4_looksAt_237 rfl hW.mm (congrArg Value.int (congrFun hW.ti 1)) ?_
    refine s_icgt (tgt := 259) dX4_looksAt_240 (by decide) (fun c_240 => ?_) (fun c_240 => ?_)
    · skip
      refine s_lloadn dX4_looksAt_259 rfl rfl ?_
      exact s_retl dX4_looksAt_260 rfl (NJ.of (F := f_X4_looksAt c k) (x := 0) (by unfold f_X4_looksAt; rw [if_pos c_8, if_pos c_240]) hW hF)
    · skip
      refine s_aloadn dX4_looksAt_243 rfl rfl ?_
      refine s_getR (n := 78) dX4_looksAt_244 rfl hW.mm (fun _ _ _ => rfl) (hW.rr 17 (by decide)).1 ?_
      refine s_iloadn dX4_looksAt_247 rfl rfl ?_
      refine s_lald' (j := k) dX4_looksAt_248 (Or.inr (Or.inl (hW.rr 17 (by decide)).2.1)) rfl (by rw [(hW.rr 17 (by decide)).2.2]; exact hk) (by rw [(hW.rr 17 (by decide)).2.2]; decide) ?_
      rw [hW.aj 17 (by decide)]
      refine s_lconst (v := 0) dX4_looksAt_249 (by decide) ?_
      refine s_lcne (tgt := 259) dX4_looksAt_250 dX4_looksAt_251 (by decide) (fun c_250 => ?_) (fun c_250 => ?_)
      · skip
        refine s_lloadn dX4_looksAt_259 rfl rfl ?_
        exact s_retl dX4_looksAt_260 rfl (NJ.of (F := f_X4_looksAt c k) (x := 0) (by unfold f_X4_looksAt; rw [if_pos c_8, if_neg c_240, if_neg c_250]) hW hF)
      · skip
        refine s_aloadn dX4_looksAt_254 rfl rfl ?_
        refine s_iloadn dX4_looksAt_255 rfl rfl ?_
        refine s_cv1G (n := 55) dX4_looksAt_256 rfl (kv hW.mm (by decide) rfl) rfl (by decide) (by decide) (by decide) (by decide) (Nat.le_of_ble_eq_true rfl) (m_X4_ends hW hk) (fun r1 S1 hr1 => ?_) (fun x S2 hr => by obtain ⟨e, -⟩ := hr; cases e)
        obtain ⟨e1, hW1, hG1⟩ := hr1
        cases e1
        have hF1 := hF.tr hG1
        refine s_lloadn dX4_looksAt_259 rfl rfl ?_
        exact s_retl dX4_looksAt_260 rfl (NJ.of (F := f_X4_looksAt c k) (x := 0) (by unfold f_X4_looksAt; rw [if_pos c_8, if_neg c_240, if_pos c_250]) hW1 hF1)
  · skip
    refine s_aloadn dX4_looksAt_11 rfl rfl ?_
    refine s_getR (n := 78) dX4_looksAt_12 rfl hW.mm (fun _ _ _ => rfl) (hW.rr 17 (by decide)).1 ?_
    refine s_iloadn dX4_looksAt_15 rfl rfl ?_
    refine s_dup2 dX4_looksAt_16 rfl rfl ?_
    refine s_lald' (j := k) dX4_looksAt_17 (Or.inr (Or.inl (hW.rr 17 (by decide)).2.1)) rfl (by rw [(hW.rr 17 (by decide)).2.2]; exact hk) (by rw [(hW.rr 17 (by decide)).2.2]; decide) ?_
    rw [hW.aj 17 (by decide)]
    refine s_aloadn dX4_looksAt_18 rfl rfl ?_
    refine s_getR (n := 78) dX4_looksAt_19 rfl hW.mm (fun _ _ _ => rfl) (hW.rr 17 (by decide)).1 ?_
    refine s_iloadn dX4_looksAt_22 rfl rfl ?_
    refine s_lald' (j := k) dX4_looksAt_23 (Or.inr (Or.inl (hW.rr 17 (by decide)).2.1)) rfl (by rw [(hW.rr 17 (by decide)).2.2]; exact hk) (by rw [(hW.rr 17 (by decide)).2.2]; decide) ?_
    rw [hW.aj 17 (by decide)]
    refine s_ldc2 (v := 500) dX4_looksAt_24 csl_RX4_148 ?_
    refine s_lmul dX4_looksAt_27 ?_
    refine s_ldc2 (v := 10000) dX4_looksAt_28 csl_RX4_146 ?_
    refine s_ldiv dX4_looksAt_31 (by decide) ?_
    refine s_ladd dX4_looksAt_32 ?_
    refine s_last' (j := k) dX4_looksAt_33 (Or.inr (Or.inl (hW.rr 17 (by decide)).2.1)) rfl (by rw [(hW.rr 17 (by decide)).2.2]; exact hk) (by rw [(hW.rr 17 (by decide)).2.2]; decide) ?_
    have hW2 := hW.paj (f := 17) (by decide) (k := k) (v := (c.aj 17 k) + (((c.aj 17 k) * 500) / 10000))
    have hF2 := hF.uJ (a := (w.ar 17)) (k := k) (v := (c.aj 17 k) + (((c.aj 17 k) * 500) / 10000)) (kd := 10) ((hW.rr 17 (by decide)).2.1) (by decide)
    refine s_aloadn dX4_looksAt_34 rfl rfl ?_
    refine s_getR (n := 78) dX4_looksAt_35 rfl hW2.mm (fun _ _ _ => rfl) (hW2.rr 17 (by decide)).1 ?_
    refine s_iloadn dX4_looksAt_38 rfl rfl ?_
    refine s_dup2 dX4_looksAt_39 rfl rfl ?_
    refine s_lald' (j := k) dX4_looksAt_40 (Or.inr (Or.inl (hW2.rr 17 (by decide)).2.1)) rfl (by rw [(hW2.rr 17 (by decide)).2.2]; exact hk) (by rw [(hW2.rr 17 (by decide)).2.2]; decide) ?_
    rw [hW2.aj 17 (by decide)]
    rw [show (c.paj 17 k ((c.aj 17 k) + (((c.aj 17 k) * 500) / 10000))).aj 17 k = (c.aj 17 k) + (((c.aj 17 k) * 500) / 10000) from (by show up2 _ 17 k _ 17 k = _; exact up2_self)]
    refine s_aloadn dX4_looksAt_41 rfl rfl ?_
    refine s_iloadn dX4_looksAt_42 rfl rfl ?_
    refine s_aloadn dX4_looksAt_43 rfl rfl ?_
    refine s_get (v := .int (c.ti 1)) (n := 62) dX4_looksAt_44 rfl hW2.mm (congrArg Value.int (congrFun hW2.ti 1)) ?_
    refine s_cv2R (n := 54) dX4_looksAt_47 rfl (kv hW2.mm (by decide) rfl) rfl (by decide) (by decide) (by decide) (by decide) (Nat.le_of_ble_eq_true rfl) (m_X4_flow hW2 hk) ?_
    refine s_ladd dX4_looksAt_50 ?_
    refine s_last' (j := k) dX4_looksAt_51 (Or.inr (Or.inl (hW2.rr 17 (by decide)).2.1)) rfl (by rw [(hW2.rr 17 (by decide)).2.2]; exact hk) (by rw [(hW2.rr 17 (by decide)).2.2]; decide) ?_
    have hW3 := hW2.paj (f := 17) (by decide) (k := k) (v := ((c.aj 17 k) + (((c.aj 17 k) * 500) / 10000)) + (f_X4_flow (c.paj 17 k ((c.aj 17 k) + (((c.aj 17 k) * 500) / 10000))) k (c.ti 1)))
    have hF3 := hF2.uJ (a := (w.ar 17)) (k := k) (v := ((c.aj 17 k) + (((c.aj 17 k) * 500) / 10000)) + (f_X4_flow (c.paj 17 k ((c.aj 17 k) + (((c.aj 17 k) * 500) / 10000))) k (c.ti 1))) (kd := 10) ((hW2.rr 17 (by decide)).2.1) (by decide)
    refine s_aloadn dX4_looksAt_52 rfl rfl ?_
    refine s_getR (n := 71) dX4_looksAt_53 rfl hW3.mm (fun _ _ _ => rfl) (hW3.rr 10 (by decide)).1 ?_
    refine s_iloadn dX4_looksAt_56 rfl rfl ?_
    refine s_aloadn dX4_looksAt_57 rfl rfl ?_
    refine s_get (v := .int (c.ti 1)) (n := 62) dX4_looksAt_58 rfl hW3.mm (congrArg Value.int (congrFun hW3.ti 1)) ?_
    refine s_aloadn dX4_looksAt_61 rfl rfl ?_
    refine s_getR (n := 73) dX4_looksAt_62 rfl hW3.mm (fun _ _ _ => rfl) (hW3.rr 12 (by decide)).1 ?_
    refine s_iloadn dX4_looksAt_65 rfl rfl ?_
    refine s_iald' (j := k) dX4_looksAt_66 ((hW3.rr 12 (by decide)).2.1) rfl (by rw [(hW3.rr 12 (by decide)).2.2]; exact hk) (by rw [(hW3.rr 12 (by decide)).2.2]; decide) ?_
    rw [hW3.ai 12 (by decide)]
    refine s_icne (tgt := 74) dX4_looksAt_67 (by decide) (fun c_67 => ?_) (fun c_67 => ?_)
    · skip
      refine s_aloadn dX4_looksAt_74 rfl rfl ?_
      refine s_getR (n := 71) dX4_looksAt_75 rfl hW3.mm (fun _ _ _ => rfl) (hW3.rr 10 (by decide)).1 ?_
      refine s_iloadn dX4_looksAt_78 rfl rfl ?_
      refine s_lald' (j := k) dX4_looksAt_79 (Or.inr (Or.inl (hW3.rr 10 (by decide)).2.1)) rfl (by rw [(hW3.rr 10 (by decide)).2.2]; exact hk) (by rw [(hW3.rr 10 (by decide)).2.2]; decide) ?_
      rw [hW3.aj 10 (by decide)]
      rw [show ((c.paj 17 k ((c.aj 17 k) + (((c.aj 17 k) * 500) / 10000))).paj 17 k (((c.aj 17 k) + (((c.aj 17 k) * 500) / 10000)) + (f_X4_flow (c.paj 17 k ((c.aj 17 k) + (((c.aj 17 k) * 500) / 10000))) k (c.ti 1)))).aj 10 k = (c.aj 10 k) from (rfl)]
      refine s_last' (j := k) dX4_looksAt_80 (Or.inr (Or.inl (hW3.rr 10 (by decide)).2.1)) rfl (by rw [(hW3.rr 10 (by decide)).2.2]; exact hk) (by rw [(hW3.rr 10 (by decide)).2.2]; decide) ?_
      have hW4 := hW3.paj (f := 10) (by decide) (k := k) (v := (c.aj 10 k))
      have hF4 := hF3.uJ (a := (w.ar 10)) (k := k) (v := (c.aj 10 k)) (kd := 10) ((hW3.rr 10 (by decide)).2.1) (by decide)
      refine s_aloadn dX4_looksAt_81 rfl rfl ?_
      refine s_getR (n := 78) dX4_looksAt_82 rfl hW4.mm (fun _ _ _ => rfl) (hW4.rr 17 (by decide)).1 ?_
      refine s_iloadn dX4_looksAt_85 rfl rfl ?_
      refine s_lald' (j := k) dX4_looksAt_86 (Or.inr (Or.inl (hW4.rr 17 (by decide)).2.1)) rfl (by rw [(hW4.rr 17 (by decide)).2.2]; exact hk) (by rw [(hW4.rr 17 (by decide)).2.2]; decide) ?_
      rw [hW4.aj 17 (by decide)]
      rw [show (((c.paj 17 k ((c.aj 17 k) + (((c.aj 17 k) * 500) / 10000))).paj 17 k (((c.aj 17 k) + (((c.aj 17 k) * 500) / 10000)) + (f_X4_flow (c.paj 17 k ((c.aj 17 k) + (((c.aj 17 k) * 500) / 10000))) k (c.ti 1)))).paj 10 k (c.aj 10 k)).aj 17 k = ((c.aj 17 k) + (((c.aj 17 k) * 500) / 10000)) + (f_X4_flow (c.paj 17 k ((c.aj 17 k) + (((c.aj 17 k) * 500) / 10000))) k (c.ti 1)) from (by show up2 _ 17 k _ 17 k = _; exact up2_self)]
      refine s_aloadn dX4_looksAt_87 rfl rfl ?_
      refine s_getR (n := 79) dX4_looksAt_88 rfl hW4.mm (fun _ _ _ => rfl) (hW4.rr 18 (by decide)).1 ?_
      refine s_iloadn dX4_looksAt_91 rfl rfl ?_
      refine s_lald' (j := k) dX4_looksAt_92 (Or.inr (Or.inl (hW4.rr 18 (by decide)).2.1)) rfl (by rw [(hW4.rr 18 (by decide)).2.2]; exact hk) (by rw [(hW4.rr 18 (by decide)).2.2]; decide) ?_
      rw [hW4.aj 18 (by decide)]
      rw [show (((c.paj 17 k ((c.aj 17 k) + (((c.aj 17 k) * 500) / 10000))).paj 17 k (((c.aj 17 k) + (((c.aj 17 k) * 500) / 10000)) + (f_X4_flow (c.paj 17 k ((c.aj 17 k) + (((c.aj 17 k) * 500) / 10000))) k (c.ti 1)))).paj 10 k (c.aj 10 k)).aj 18 k = (c.aj 18 k) from (rfl)]
      refine s_lcge (tgt := 106) dX4_looksAt_93 dX4_looksAt_94 (by decide) (fun c_93 => ?_) (fun c_93 => ?_)
      · skip
        refine s_aloadn dX4_looksAt_106 rfl rfl ?_
        refine s_getR (n := 79) dX4_looksAt_107 rfl hW4.mm (fun _ _ _ => rfl) (hW4.rr 18 (by decide)).1 ?_
        refine s_iloadn dX4_looksAt_110 rfl rfl ?_
        refine s_lald' (j := k) dX4_looksAt_111 (Or.inr (Or.inl (hW4.rr 18 (by decide)).2.1)) rfl (by rw [(hW4.rr 18 (by decide)).2.2]; exact hk) (by rw [(hW4.rr 18 (by decide)).2.2]; decide) ?_
        rw [hW4.aj 18 (by decide)]
        rw [show (((c.paj 17 k ((c.aj 17 k) + (((c.aj 17 k) * 500) / 10000))).paj 17 k (((c.aj 17 k) + (((c.aj 17 k) * 500) / 10000)) + (f_X4_flow (c.paj 17 k ((c.aj 17 k) + (((c.aj 17 k) * 500) / 10000))) k (c.ti 1)))).paj 10 k (c.aj 10 k)).aj 18 k = (c.aj 18 k) from (rfl)]
        refine s_lstore dX4_looksAt_112 (by decide) ?_
        refine s_aloadn dX4_looksAt_114 rfl rfl ?_
        refine s_getR (n := 79) dX4_looksAt_115 rfl hW4.mm (fun _ _ _ => rfl) (hW4.rr 18 (by decide)).1 ?_
        refine s_iloadn dX4_looksAt_118 rfl rfl ?_
        refine s_dup2 dX4_looksAt_119 rfl rfl ?_
        refine s_lald' (j := k) dX4_looksAt_120 (Or.inr (Or.inl (hW4.rr 18 (by decide)).2.1)) rfl (by rw [(hW4.rr 18 (by decide)).2.2]; exact hk) (by rw [(hW4.rr 18 (by decide)).2.2]; decide) ?_
        rw [hW4.aj 18 (by decide)]
        rw [show (((c.paj 17 k ((c.aj 17 k) + (((c.aj 17 k) * 500) / 10000))).paj 17 k (((c.aj 17 k) + (((c.aj 17 k) * 500) / 10000)) + (f_X4_flow (c.paj 17 k ((c.aj 17 k) + (((c.aj 17 k) * 500) / 10000))) k (c.ti 1)))).paj 10 k (c.aj 10 k)).aj 18 k = (c.aj 18 k) from (rfl)]
        refine s_lload dX4_looksAt_121 rfl ?_
        refine s_lsub dX4_looksAt_123 ?_
        refine s_last' (j := k) dX4_looksAt_124 (Or.inr (Or.inl (hW4.rr 18 (by decide)).2.1)) rfl (by rw [(hW4.rr 18 (by decide)).2.2]; exact hk) (by rw [(hW4.rr 18 (by decide)).2.2]; decide) ?_
        have hW5 := hW4.paj (f := 18) (by decide) (k := k) (v := (c.aj 18 k) - (c.aj 18 k))
        have hF5 := hF4.uJ (a := (w.ar 18)) (k := k) (v := (c.aj 18 k) - (c.aj 18 k)) (kd := 10) ((hW4.rr 18 (by decide)).2.1) (by decide)
        refine s_aloadn dX4_looksAt_125 rfl rfl ?_
        refine s_getR (n := 78) dX4_looksAt_126 rfl hW5.mm (fun _ _ _ => rfl) (hW5.rr 17 (by decide)).1 ?_
        refine s_iloadn dX4_looksAt_129 rfl rfl ?_
        refine s_dup2 dX4_looksAt_130 rfl rfl ?_
        refine s_lald' (j := k) dX4_looksAt_131 (Or.inr (Or.inl (hW5.rr 17 (by decide)).2.1)) rfl (by rw [(hW5.rr 17 (by decide)).2.2]; exact hk) (by rw [(hW5.rr 17 (by decide)).2.2]; decide) ?_
        rw [hW5.aj 17 (by decide)]
        rw [show ((((c.paj 17 k ((c.aj 17 k) + (((c.aj 17 k) * 500) / 10000))).paj 17 k (((c.aj 17 k) + (((c.aj 17 k) * 500) / 10000)) + (f_X4_flow (c.paj 17 k ((c.aj 17 k) + (((c.aj 17 k) * 500) / 10000))) k (c.ti 1)))).paj 10 k (c.aj 10 k)).paj 18 k ((c.aj 18 k) - (c.aj 18 k))).aj 17 k = ((c.aj 17 k) + (((c.aj 17 k) * 500) / 10000)) + (f_X4_flow (c.paj 17 k ((c.aj 17 k) + (((c.aj 17 k) * 500) / 10000))) k (c.ti 1)) from (by show up2 _ 17 k _ 17 k = _; exact up2_self)]
        refine s_lload dX4_looksAt_132 rfl ?_
        refine s_lsub dX4_looksAt_134 ?_
        refine s_last' (j := k) dX4_looksAt_135 (Or.inr (Or.inl (hW5.rr 17 (by decide)).2.1)) rfl (by rw [(hW5.rr 17 (by decide)).2.2]; exact hk) (by rw [(hW5.rr 17 (by decide)).2.2]; decide) ?_
        have hW6 := hW5.paj (f := 17) (by decide) (k := k) (v := (((c.aj 17 k) + (((c.aj 17 k) * 500) / 10000)) + (f_X4_flow (c.paj 17 k ((c.aj 17 k) + (((c.aj 17 k) * 500) / 10000))) k (c.ti 1))) - (c.aj 18 k))
        have hF6 := hF5.uJ (a := (w.ar 17)) (k := k) (v := (((c.aj 17 k) + (((c.aj 17 k) * 500) / 10000)) + (f_X4_flow (c.paj 17 k ((c.aj 17 k) + (((c.aj 17 k) * 500) / 10000))) k (c.ti 1))) - (c.aj 18 k)) (kd := 10) ((hW5.rr 17 (by decide)).2.1) (by decide)
        refine s_aloadn dX4_looksAt_136 rfl rfl ?_
        refine s_getR (n := 83) dX4_looksAt_137 rfl hW6.mm (fun _ _ _ => rfl) (hW6.rr 22 (by decide)).1 ?_
        refine s_aloadn dX4_looksAt_140 rfl rfl ?_
        refine s_getR (n := 69) dX4_looksAt_141 rfl hW6.mm (fun _ _ _ => rfl) (hW6.rr 8 (by decide)).1 ?_
        refine s_iloadn dX4_looksAt_144 rfl rfl ?_
        refine s_iald' (j := k) dX4_looksAt_145 ((hW6.rr 8 (by decide)).2.1) rfl (by rw [(hW6.rr 8 (by decide)).2.2]; exact hk) (by rw [(hW6.rr 8 (by decide)).2.2]; decide) ?_
        rw [hW6.ai 8 (by decide)]
        refine s_zald' (j := (ix (c.ai 8 k))) dX4_looksAt_146 ((hW6.rr 22 (by decide)).2.1) (ix_nI hK.1).symm (by rw [(hW6.rr 22 (by decide)).2.2]; exact (ix_of hK.1 hK.2 (by decide))) (by rw [(hW6.rr 22 (by decide)).2.2]; decide) ?_
        rw [hW6.ai 22 (by decide)]
        refine s_ifne (tgt := 159) dX4_looksAt_147 (by decide) (fun c_147 => ?_) (fun c_147 => ?_)
        · skip
          refine s_lconst (v := 0) dX4_looksAt_159 (by decide) ?_
          refine s_goto (tgt := 190) dX4_looksAt_160 (by decide) ?_
          refine s_lstore dX4_looksAt_190 (by decide) ?_
          refine s_aloadn dX4_looksAt_192 rfl rfl ?_
          refine s_dup dX4_looksAt_193 rfl ?_
          refine s_get (v := .long (c.tj 2)) (n := 63) dX4_looksAt_194 rfl hW6.mm (congrArg Value.long (congrFun hW6.tj 2)) ?_
          refine s_lload dX4_looksAt_197 rfl ?_
          refine s_lsub dX4_looksAt_199 ?_
          refine s_putJ (n := 63) dX4_looksAt_200 rfl hW6.mm (Or.inl rfl) (fun _ _ _ => rfl) rfl rfl ?_
          have hW7 := hW6.ptj (k := 2) (v := (c.tj 2) - 0)
          have hF7 := hF6.uJ (a := w.mm) (k := 2) (v := (c.tj 2) - 0) (kd := 5) hW6.mm (by decide)
          refine s_aloadn dX4_looksAt_203 rfl rfl ?_
          refine s_getR (n := 78) dX4_looksAt_204 rfl hW7.mm (fun _ _ _ => rfl) (hW7.rr 17 (by decide)).1 ?_
          refine s_iloadn dX4_looksAt_207 rfl rfl ?_
          refine s_dup2 dX4_looksAt_208 rfl rfl ?_
          refine s_lald' (j := k) dX4_looksAt_209 (Or.inr (Or.inl (hW7.rr 17 (by decide)).2.1)) rfl (by rw [(hW7.rr 17 (by decide)).2.2]; exact hk) (by rw [(hW7.rr 17 (by decide)).2.2]; decide) ?_
          rw [hW7.aj 17 (by decide)]
          rw [show ((((((c.paj 17 k ((c.aj 17 k) + (((c.aj 17 k) * 500) / 10000))).paj 17 k (((c.aj 17 k) + (((c.aj 17 k) * 500) / 10000)) + (f_X4_flow (c.paj 17 k ((c.aj 17 k) + (((c.aj 17 k) * 500) / 10000))) k (c.ti 1)))).paj 10 k (c.aj 10 k)).paj 18 k ((c.aj 18 k) - (c.aj 18 k))).paj 17 k ((((c.aj 17 k) + (((c.aj 17 k) * 500) / 10000)) + (f_X4_flow (c.paj 17 k ((c.aj 17 k) + (((c.aj 17 k) * 500) / 10000))) k (c.ti 1))) - (c.aj 18 k))).ptj 2 ((c.tj 2) - 0)).aj 17 k = (((c.aj 17 k) + (((c.aj 17 k) * 500) / 10000)) + (f_X4_flow (c.paj 17 k ((c.aj 17 k) + (((c.aj 17 k) * 500) / 10000))) k (c.ti 1))) - (c.aj 18 k) from (by show up2 _ 17 k _ 17 k = _; exact up2_self)]
          refine s_lload dX4_looksAt_210 rfl ?_
          refine s_lsub dX4_looksAt_212 ?_
          refine s_last' (j := k) dX4_looksAt_213 (Or.inr (Or.inl (hW7.rr 17 (by decide)).2.1)) rfl (by rw [(hW7.rr 17 (by decide)).2.2]; exact hk) (by rw [(hW7.rr 17 (by decide)).2.2]; decide) ?_
          have hW8 := hW7.paj (f := 17) (by decide) (k := k) (v := ((((c.aj 17 k) + (((c.aj 17 k) * 500) / 10000)) + (f_X4_flow (c.paj 17 k ((c.aj 17 k) + (((c.aj 17 k) * 500) / 10000))) k (c.ti 1))) - (c.aj 18 k)) - 0)
          have hF8 := hF7.uJ (a := (w.ar 17)) (k := k) (v := ((((c.aj 17 k) + (((c.aj 17 k) * 500) / 10000)) + (f_X4_flow (c.paj 17 k ((c.aj 17 k) + (((c.aj 17 k) * 500) / 10000))) k (c.ti 1))) - (c.aj 18 k)) - 0) (kd := 10) ((hW7.rr 17 (by decide)).2.1) (by decide)
          refine s_lload dX4_looksAt_214 rfl ?_
          refine s_lload dX4_looksAt_216 rfl ?_
          refine s_ladd dX4_looksAt_218 ?_
          refine s_lstoren dX4_looksAt_219 rfl (by decide) ?_
          refine s_aloadn dX4_looksAt_220 rfl rfl ?_
          refine s_getR (n := 80) dX4_looksAt_221 rfl hW8.mm (fun _ _ _ => rfl) (hW8.rr 19 (by decide)).1 ?_
          refine s_iloadn dX4_looksAt_224 rfl rfl ?_
          refine s_dup2 dX4_looksAt_225 rfl rfl ?_
          refine s_lald' (j := k) dX4_looksAt_226 (Or.inr (Or.inl (hW8.rr 19 (by decide)).2.1)) rfl (by rw [(hW8.rr 19 (by decide)).2.2]; exact hk) (by rw [(hW8.rr 19 (by decide)).2.2]; decide) ?_
          rw [hW8.aj 19 (by decide)]
          rw [show (((((((c.paj 17 k ((c.aj 17 k) + (((c.aj 17 k) * 500) / 10000))).paj 17 k (((c.aj 17 k) + (((c.aj 17 k) * 500) / 10000)) + (f_X4_flow (c.paj 17 k ((c.aj 17 k) + (((c.aj 17 k) * 500) / 10000))) k (c.ti 1)))).paj 10 k (c.aj 10 k)).paj 18 k ((c.aj 18 k) - (c.aj 18 k))).paj 17 k ((((c.aj 17 k) + (((c.aj 17 k) * 500) / 10000)) + (f_X4_flow (c.paj 17 k ((c.aj 17 k) + (((c.aj 17 k) * 500) / 10000))) k (c.ti 1))) - (c.aj 18 k))).ptj 2 ((c.tj 2) - 0)).paj 17 k (((((c.aj 17 k) + (((c.aj 17 k) * 500) / 10000)) + (f_X4_flow (c.paj 17 k ((c.aj 17 k) + (((c.aj 17 k) * 500) / 10000))) k (c.ti 1))) - (c.aj 18 k)) - 0)).aj 19 k = (c.aj 19 k) from (rfl)]
          refine s_lloadn dX4_looksAt_227 rfl rfl ?_
          refine s_ladd dX4_looksAt_228 ?_
          refine s_last' (j := k) dX4_looksAt_229 (Or.inr (Or.inl (hW8.rr 19 (by decide)).2.1)) rfl (by rw [(hW8.rr 19 (by decide)).2.2]; exact hk) (by rw [(hW8.rr 19 (by decide)).2.2]; decide) ?_
          have hW9 := hW8.paj (f := 19) (by decide) (k := k) (v := (c.aj 19 k) + ((c.aj 18 k) + 0))
          have hF9 := hF8.uJ (a := (w.ar 19)) (k := k) (v := (c.aj 19 k) + ((c.aj 18 k) + 0)) (kd := 10) ((hW8.rr 19 (by decide)).2.1) (by decide)
          refine s_aloadn dX4_looksAt_230 rfl rfl ?_
          refine s_getR (n := 73) dX4_looksAt_231 rfl hW9.mm (fun _ _ _ => rfl) (hW9.rr 12 (by decide)).1 ?_
          refine s_iloadn dX4_looksAt_234 rfl rfl ?_
          refine s_iald' (j := k) dX4_looksAt_235 ((hW9.rr 12 (by decide)).2.1) rfl (by rw [(hW9.rr 12 (by decide)).2.2]; exact hk) (by rw [(hW9.rr 12 (by decide)).2.2]; decide) ?_
          rw [hW9.ai 12 (by decide)]
          refine s_aloadn dX4_looksAt_236 rfl rfl ?_
          refine s_get (v := .int (c.ti 1)) (n := 62) dX4_looksAt_237 rfl hW9.mm (congrArg Value.int (congrFun hW9.ti 1)) ?_
          refine s_icgt (tgt := 259) dX4_looksAt_240 (by decide) (fun c_240 => ?_) (fun c_240 => ?_)
          · skip
            refine s_lloadn dX4_looksAt_259 rfl rfl ?_
            exact s_retl dX4_looksAt_260 rfl (NJ.of (F := f_X4_looksAt c k) (x := (c.aj 18 k) + 0) (by unfold f_X4_looksAt; rw [if_neg c_8, if_neg c_67, if_pos c_93, if_neg c_147, if_pos c_240]) hW9 hF9)
          · skip
            refine s_aloadn dX4_looksAt_243 rfl rfl ?_
            refine s_getR (n := 78) dX4_looksAt_244 rfl hW9.mm (fun _ _ _ => rfl) (hW9.rr 17 (by decide)).1 ?_
            refine s_iloadn dX4_looksAt_247 rfl rfl ?_
            refine s_lald' (j := k) dX4_looksAt_248 (Or.inr (Or.inl (hW9.rr 17 (by decide)).2.1)) rfl (by rw [(hW9.rr 17 (by decide)).2.2]; exact hk) (by rw [(hW9.rr 17 (by decide)).2.2]; decide) ?_
            rw [hW9.aj 17 (by decide)]
            rw [show ((((((((c.paj 17 k ((c.aj 17 k) + (((c.aj 17 k) * 500) / 10000))).paj 17 k (((c.aj 17 k) + (((c.aj 17 k) * 500) / 10000)) + (f_X4_flow (c.paj 17 k ((c.aj 17 k) + (((c.aj 17 k) * 500) / 10000))) k (c.ti 1)))).paj 10 k (c.aj 10 k)).paj 18 k ((c.aj 18 k) - (c.aj 18 k))).paj 17 k ((((c.aj 17 k) + (((c.aj 17 k) * 500) / 10000)) + (f_X4_flow (c.paj 17 k ((c.aj 17 k) + (((c.aj 17 k) * 500) / 10000))) k (c.ti 1))) - (c.aj 18 k))).ptj 2 ((c.tj 2) - 0)).paj 17 k (((((c.aj 17 k) + (((c.aj 17 k) * 500) / 10000)) + (f_X4_flow (c.paj 17 k ((c.aj 17 k) + (((c.aj 17 k) * 500) / 10000))) k (c.ti 1))) - (c.aj 18 k)) - 0)).paj 19 k ((c.aj 19 k) + ((c.aj 18 k) + 0))).aj 17 k = ((((c.aj 17 k) + (((c.aj 17 k) * 500) / 10000)) + (f_X4_flow (c.paj 17 k ((c.aj 17 k) + (((c.aj 17 k) * 500) / 10000))) k (c.ti 1))) - (c.aj 18 k)) - 0 from (by show up2 _ 17 k _ 17 k = _; exact up2_self)]
            refine s_lconst (v := 0) dX4_looksAt_249 (by decide) ?_
            refine s_lcne (tgt := 259) dX4_looksAt_250 dX4_looksAt_251 (by decide) (fun c_250 => ?_) (fun c_250 => ?_)
            · skip
              refine s_lloadn dX4_looksAt_259 rfl rfl ?_
              exact s_retl dX4_looksAt_260 rfl (NJ.of (F := f_X4_looksAt c k) (x := (c.aj 18 k) + 0) (by unfold f_X4_looksAt; rw [if_neg c_8, if_neg c_67, if_pos c_93, if_neg c_147, if_neg c_240, if_neg c_250]) hW9 hF9)
            · skip
              refine s_aloadn dX4_looksAt_254 rfl rfl ?_
              refine s_iloadn dX4_looksAt_255 rfl rfl ?_
              refine s_cv1G (n := 55) dX4_looksAt_256 rfl (kv hW9.mm (by decide) rfl) rfl (by decide) (by decide) (by decide) (by decide) (Nat.le_of_ble_eq_true rfl) (m_X4_ends hW9 hk) (fun r10 S10 hr10 => ?_) (fun x S2 hr => by obtain ⟨e, -⟩ := hr; cases e)
              obtain ⟨e10, hW10, hG10⟩ := hr10
              cases e10
              have hF10 := hF9.tr hG10
              refine s_lloadn dX4_looksAt_259 rfl rfl ?_
              exact s_retl dX4_looksAt_260 rfl (NJ.of (F := f_X4_looksAt c k) (x := (c.aj 18 k) + 0) (by unfold f_X4_looksAt; rw [if_neg c_8, if_neg c_67, if_pos c_93, if_neg c_147, if_neg c_240, if_pos c_250]) hW10 hF10)
        · skip
          refine s_aloadn dX4_looksAt_150 rfl rfl ?_
          refine s_get (v := .long (c.tj 2)) (n := 63) dX4_looksAt_151 rfl hW6.mm (congrArg Value.long (congrFun hW6.tj 2)) ?_
          refine s_lconst (v := 0) dX4_looksAt_154 (by decide) ?_
          refine s_lcge (tgt := 163) dX4_looksAt_155 dX4_looksAt_156 (by decide) (fun c_155 => ?_) (fun c_155 => ?_)
          · skip
            refine s_aloadn dX4_looksAt_163 rfl rfl ?_
            refine s_getR (n := 78) dX4_looksAt_164 rfl hW6.mm (fun _ _ _ => rfl) (hW6.rr 17 (by decide)).1 ?_
            refine s_iloadn dX4_looksAt_167 rfl rfl ?_
            refine s_lald' (j := k) dX4_looksAt_168 (Or.inr (Or.inl (hW6.rr 17 (by decide)).2.1)) rfl (by rw [(hW6.rr 17 (by decide)).2.2]; exact hk) (by rw [(hW6.rr 17 (by decide)).2.2]; decide) ?_
            rw [hW6.aj 17 (by decide)]
            rw [show (((((c.paj 17 k ((c.aj 17 k) + (((c.aj 17 k) * 500) / 10000))).paj 17 k (((c.aj 17 k) + (((c.aj 17 k) * 500) / 10000)) + (f_X4_flow (c.paj 17 k ((c.aj 17 k) + (((c.aj 17 k) * 500) / 10000))) k (c.ti 1)))).paj 10 k (c.aj 10 k)).paj 18 k ((c.aj 18 k) - (c.aj 18 k))).paj 17 k ((((c.aj 17 k) + (((c.aj 17 k) * 500) / 10000)) + (f_X4_flow (c.paj 17 k ((c.aj 17 k) + (((c.aj 17 k) * 500) / 10000))) k (c.ti 1))) - (c.aj 18 k))).aj 17 k = (((c.aj 17 k) + (((c.aj 17 k) * 500) / 10000)) + (f_X4_flow (c.paj 17 k ((c.aj 17 k) + (((c.aj 17 k) * 500) / 10000))) k (c.ti 1))) - (c.aj 18 k) from (by show up2 _ 17 k _ 17 k = _; exact up2_self)]
            refine s_aloadn dX4_looksAt_169 rfl rfl ?_
            refine s_get (v := .long (c.tj 2)) (n := 63) dX4_looksAt_170 rfl hW6.mm (congrArg Value.long (congrFun hW6.tj 2)) ?_
            refine s_lcge (tgt := 186) dX4_looksAt_173 dX4_looksAt_174 (by decide) (fun c_173 => ?_) (fun c_173 => ?_)
            · skip
              refine s_aloadn dX4_looksAt_186 rfl rfl ?_
              refine s_get (v := .long (c.tj 2)) (n := 63) dX4_looksAt_187 rfl hW6.mm (congrArg Value.long (congrFun hW6.tj 2)) ?_
              refine s_lstore dX4_looksAt_190 (by decide) ?_
              refine s_aloadn dX4_looksAt_192 rfl rfl ?_
              refine s_dup dX4_looksAt_193 rfl ?_
              refine s_get (v := .long (c.tj 2)) (n := 63) dX4_looksAt_194 rfl hW6.mm (congrArg Value.long (congrFun hW6.tj 2)) ?_
              refine s_lload dX4_looksAt_197 rfl ?_
              refine s_lsub dX4_looksAt_199 ?_
              refine s_putJ (n := 63) dX4_looksAt_200 rfl hW6.mm (Or.inl rfl) (fun _ _ _ => rfl) rfl rfl ?_
              have hW11 := hW6.ptj (k := 2) (v := (c.tj 2) - (c.tj 2))
              have hF11 := hF6.uJ (a := w.mm) (k := 2) (v := (c.tj 2) - (c.tj 2)) (kd := 5) hW6.mm (by decide)
              refine s_aloadn dX4_looksAt_203 rfl rfl ?_
              refine s_getR (n := 78) dX4_looksAt_204 rfl hW11.mm (fun _ _ _ => rfl) (hW11.rr 17 (by decide)).1 ?_
              refine s_iloadn dX4_looksAt_207 rfl rfl ?_
              refine s_dup2 dX4_looksAt_208 rfl rfl ?_
              refine s_lald' (j := k) dX4_looksAt_209 (Or.inr (Or.inl (hW11.rr 17 (by decide)).2.1)) rfl (by rw [(hW11.rr 17 (by decide)).2.2]; exact hk) (by rw [(hW11.rr 17 (by decide)).2.2]; decide) ?_
              rw [hW11.aj 17 (by decide)]
              rw [show ((((((c.paj 17 k ((c.aj 17 k) + (((c.aj 17 k) * 500) / 10000))).paj 17 k (((c.aj 17 k) + (((c.aj 17 k) * 500) / 10000)) + (f_X4_flow (c.paj 17 k ((c.aj 17 k) + (((c.aj 17 k) * 500) / 10000))) k (c.ti 1)))).paj 10 k (c.aj 10 k)).paj 18 k ((c.aj 18 k) - (c.aj 18 k))).paj 17 k ((((c.aj 17 k) + (((c.aj 17 k) * 500) / 10000)) + (f_X4_flow (c.paj 17 k ((c.aj 17 k) + (((c.aj 17 k) * 500) / 10000))) k (c.ti 1))) - (c.aj 18 k))).ptj 2 ((c.tj 2) - (c.tj 2))).aj 17 k = (((c.aj 17 k) + (((c.aj 17 k) * 500) / 10000)) + (f_X4_flow (c.paj 17 k ((c.aj 17 k) + (((c.aj 17 k) * 500) / 10000))) k (c.ti 1))) - (c.aj 18 k) from (by show up2 _ 17 k _ 17 k = _; exact up2_self)]
              refine s_lload dX4_looksAt_210 rfl ?_
              refine s_lsub dX4_looksAt_212 ?_
              refine s_last' (j := k) dX4_looksAt_213 (Or.inr (Or.inl (hW11.rr 17 (by decide)).2.1)) rfl (by rw [(hW11.rr 17 (by decide)).2.2]; exact hk) (by rw [(hW11.rr 17 (by decide)).2.2]; decide) ?_
              have hW12 := hW11.paj (f := 17) (by decide) (k := k) (v := ((((c.aj 17 k) + (((c.aj 17 k) * 500) / 10000)) + (f_X4_flow (c.paj 17 k ((c.aj 17 k) + (((c.aj 17 k) * 500) / 10000))) k (c.ti 1))) - (c.aj 18 k)) - (c.tj 2))
              have hF12 := hF11.uJ (a := (w.ar 17)) (k := k) (v := ((((c.aj 17 k) + (((c.aj 17 k) * 500) / 10000)) + (f_X4_flow (c.paj 17 k ((c.aj 17 k) + (((c.aj 17 k) * 500) / 10000))) k (c.ti 1))) - (c.aj 18 k)) - (c.tj 2)) (kd := 10) ((hW11.rr 17 (by decide)).2.1) (by decide)
              refine s_lload dX4_looksAt_214 rfl ?_
              refine s_lload dX4_looksAt_216 rfl ?_
              refine s_ladd dX4_looksAt_218 ?_
              refine s_lstoren dX4_looksAt_219 rfl (by decide) ?_
              refine s_aloadn dX4_looksAt_220 rfl rfl ?_
              refine s_getR (n := 80) dX4_looksAt_221 rfl hW12.mm (fun _ _ _ => rfl) (hW12.rr 19 (by decide)).1 ?_
              refine s_iloadn dX4_looksAt_224 rfl rfl ?_
              refine s_dup2 dX4_looksAt_225 rfl rfl ?_
              refine s_lald' (j := k) dX4_looksAt_226 (Or.inr (Or.inl (hW12.rr 19 (by decide)).2.1)) rfl (by rw [(hW12.rr 19 (by decide)).2.2]; exact hk) (by rw [(hW12.rr 19 (by decide)).2.2]; decide) ?_
              rw [hW12.aj 19 (by decide)]
              rw [show (((((((c.paj 17 k ((c.aj 17 k) + (((c.aj 17 k) * 500) / 10000))).paj 17 k (((c.aj 17 k) + (((c.aj 17 k) * 500) / 10000)) + (f_X4_flow (c.paj 17 k ((c.aj 17 k) + (((c.aj 17 k) * 500) / 10000))) k (c.ti 1)))).paj 10 k (c.aj 10 k)).paj 18 k ((c.aj 18 k) - (c.aj 18 k))).paj 17 k ((((c.aj 17 k) + (((c.aj 17 k) * 500) / 10000)) + (f_X4_flow (c.paj 17 k ((c.aj 17 k) + (((c.aj 17 k) * 500) / 10000))) k (c.ti 1))) - (c.aj 18 k))).ptj 2 ((c.tj 2) - (c.tj 2))).paj 17 k (((((c.aj 17 k) + (((c.aj 17 k) * 500) / 10000)) + (f_X4_flow (c.paj 17 k ((c.aj 17 k) + (((c.aj 17 k) * 500) / 10000))) k (c.ti 1))) - (c.aj 18 k)) - (c.tj 2))).aj 19 k = (c.aj 19 k) from (rfl)]
              refine s_lloadn dX4_looksAt_227 rfl rfl ?_
              refine s_ladd dX4_looksAt_228 ?_
              refine s_last' (j := k) dX4_looksAt_229 (Or.inr (Or.inl (hW12.rr 19 (by decide)).2.1)) rfl (by rw [(hW12.rr 19 (by decide)).2.2]; exact hk) (by rw [(hW12.rr 19 (by decide)).2.2]; decide) ?_
              have hW13 := hW12.paj (f := 19) (by decide) (k := k) (v := (c.aj 19 k) + ((c.aj 18 k) + (c.tj 2)))
              have hF13 := hF12.uJ (a := (w.ar 19)) (k := k) (v := (c.aj 19 k) + ((c.aj 18 k) + (c.tj 2))) (kd := 10) ((hW12.rr 19 (by decide)).2.1) (by decide)
              refine s_aloadn dX4_looksAt_230 rfl rfl ?_
              refine s_getR (n := 73) dX4_looksAt_231 rfl hW13.mm (fun _ _ _ => rfl) (hW13.rr 12 (by decide)).1 ?_
              refine s_iloadn dX4_looksAt_234 rfl rfl ?_
              refine s_iald' (j := k) dX4_looksAt_235 ((hW13.rr 12 (by decide)).2.1) rfl (by rw [(hW13.rr 12 (by decide)).2.2]; exact hk) (by rw [(hW13.rr 12 (by decide)).2.2]; decide) ?_
              rw [hW13.ai 12 (by decide)]
              refine s_aloadn dX4_looksAt_236 rfl rfl ?_
              refine s_get (v := .int (c.ti 1)) (n := 62) dX4_looksAt_237 rfl hW13.mm (congrArg Value.int (congrFun hW13.ti 1)) ?_
              refine s_icgt (tgt := 259) dX4_looksAt_240 (by decide) (fun c_240 => ?_) (fun c_240 => ?_)
              · skip
                refine s_lloadn dX4_looksAt_259 rfl rfl ?_
                exact s_retl dX4_looksAt_260 rfl (NJ.of (F := f_X4_looksAt c k) (x := (c.aj 18 k) + (c.tj 2)) (by unfold f_X4_looksAt; rw [if_neg c_8, if_neg c_67, if_pos c_93, if_pos c_147, if_pos c_155, if_pos c_173, if_pos c_240]) hW13 hF13)
              · skip
                refine s_aloadn dX4_looksAt_243 rfl rfl ?_
                refine s_getR (n := 78) dX4_looksAt_244 rfl hW13.mm (fun _ _ _ => rfl) (hW13.rr 17 (by decide)).1 ?_
                refine s_iloadn dX4_looksAt_247 rfl rfl ?_
                refine s_lald' (j := k) dX4_looksAt_248 (Or.inr (Or.inl (hW13.rr 17 (by decide)).2.1)) rfl (by rw [(hW13.rr 17 (by decide)).2.2]; exact hk) (by rw [(hW13.rr 17 (by decide)).2.2]; decide) ?_
                rw [hW13.aj 17 (by decide)]
                rw [show ((((((((c.paj 17 k ((c.aj 17 k) + (((c.aj 17 k) * 500) / 10000))).paj 17 k (((c.aj 17 k) + (((c.aj 17 k) * 500) / 10000)) + (f_X4_flow (c.paj 17 k ((c.aj 17 k) + (((c.aj 17 k) * 500) / 10000))) k (c.ti 1)))).paj 10 k (c.aj 10 k)).paj 18 k ((c.aj 18 k) - (c.aj 18 k))).paj 17 k ((((c.aj 17 k) + (((c.aj 17 k) * 500) / 10000)) + (f_X4_flow (c.paj 17 k ((c.aj 17 k) + (((c.aj 17 k) * 500) / 10000))) k (c.ti 1))) - (c.aj 18 k))).ptj 2 ((c.tj 2) - (c.tj 2))).paj 17 k (((((c.aj 17 k) + (((c.aj 17 k) * 500) / 10000)) + (f_X4_flow (c.paj 17 k ((c.aj 17 k) + (((c.aj 17 k) * 500) / 10000))) k (c.ti 1))) - (c.aj 18 k)) - (c.tj 2))).paj 19 k ((c.aj 19 k) + ((c.aj 18 k) + (c.tj 2)))).aj 17 k = ((((c.aj 17 k) + (((c.aj 17 k) * 500) / 10000)) + (f_X4_flow (c.paj 17 k ((c.aj 17 k) + (((c.aj 17 k) * 500) / 10000))) k (c.ti 1))) - (c.aj 18 k)) - (c.tj 2) from (by show up2 _ 17 k _ 17 k = _; exact up2_self)]
                refine s_lconst (v := 0) dX4_looksAt_249 (by decide) ?_
                refine s_lcne (tgt := 259) dX4_looksAt_250 dX4_looksAt_251 (by decide) (fun c_250 => ?_) (fun c_250 => ?_)
                · skip
                  refine s_lloadn dX4_looksAt_259 rfl rfl ?_
                  exact s_retl dX4_looksAt_260 rfl (NJ.of (F := f_X4_looksAt c k) (x := (c.aj 18 k) + (c.tj 2)) (by unfold f_X4_looksAt; rw [if_neg c_8, if_neg c_67, if_pos c_93, if_pos c_147, if_pos c_155, if_pos c_173, if_neg c_240, if_neg c_250]) hW13 hF13)
                · skip
                  refine s_aloadn dX4_looksAt_254 rfl rfl ?_
                  refine s_iloadn dX4_looksAt_255 rfl rfl ?_
                  refine s_cv1G (n := 55) dX4_looksAt_256 rfl (kv hW13.mm (by decide) rfl) rfl (by decide) (by decide) (by decide) (by decide) (Nat.le_of_ble_eq_true rfl) (m_X4_ends hW13 hk) (fun r14 S14 hr14 => ?_) (fun x S2 hr => by obtain ⟨e, -⟩ := hr; cases e)
                  obtain ⟨e14, hW14, hG14⟩ := hr14
                  cases e14
                  have hF14 := hF13.tr hG14
                  refine s_lloadn dX4_looksAt_259 rfl rfl ?_
                  exact s_retl dX4_looksAt_260 rfl (NJ.of (F := f_X4_looksAt c k) (x := (c.aj 18 k) + (c.tj 2)) (by unfold f_X4_looksAt; rw [if_neg c_8, if_neg c_67, if_pos c_93, if_pos c_147, if_pos c_155, if_pos c_173, if_neg c_240, if_pos c_250]) hW14 hF14)
            · skip
              refine s_aloadn dX4_looksAt_177 rfl rfl ?_
              refine s_getR (n := 78) dX4_looksAt_178 rfl hW6.mm (fun _ _ _ => rfl) (hW6.rr 17 (by decide)).1 ?_
              refine s_iloadn dX4_looksAt_181 rfl rfl ?_
              refine s_lald' (j := k) dX4_looksAt_182 (Or.inr (Or.inl (hW6.rr 17 (by decide)).2.1)) rfl (by rw [(hW6.rr 17 (by decide)).2.2]; exact hk) (by rw [(hW6.rr 17 (by decide)).2.2]; decide) ?_
              rw [hW6.aj 17 (by decide)]
              rw [show (((((c.paj 17 k ((c.aj 17 k) + (((c.aj 17 k) * 500) / 10000))).paj 17 k (((c.aj 17 k) + (((c.aj 17 k) * 500) / 10000)) + (f_X4_flow (c.paj 17 k ((c.aj 17 k) + (((c.aj 17 k) * 500) / 10000))) k (c.ti 1)))).paj 10 k (c.aj 10 k)).paj 18 k ((c.aj 18 k) - (c.aj 18 k))).paj 17 k ((((c.aj 17 k) + (((c.aj 17 k) * 500) / 10000)) + (f_X4_flow (c.paj 17 k ((c.aj 17 k) + (((c.aj 17 k) * 500) / 10000))) k (c.ti 1))) - (c.aj 18 k))).aj 17 k = (((c.aj 17 k) + (((c.aj 17 k) * 500) / 10000)) + (f_X4_flow (c.paj 17 k ((c.aj 17 k) + (((c.aj 17 k) * 500) / 10000))) k (c.ti 1))) - (c.aj 18 k) from (by show up2 _ 17 k _ 17 k = _; exact up2_self)]
              refine s_goto (tgt := 190) dX4_looksAt_183 (by decide) ?_
              refine s_lstore dX4_looksAt_190 (by decide) ?_
              refine s_aloadn dX4_looksAt_192 rfl rfl ?_
              refine s_dup dX4_looksAt_193 rfl ?_
              refine s_get (v := .long (c.tj 2)) (n := 63) dX4_looksAt_194 rfl hW6.mm (congrArg Value.long (congrFun hW6.tj 2)) ?_
              refine s_lload dX4_looksAt_197 rfl ?_
              refine s_lsub dX4_looksAt_199 ?_
              refine s_putJ (n := 63) dX4_looksAt_200 rfl hW6.mm (Or.inl rfl) (fun _ _ _ => rfl) rfl rfl ?_
              have hW15 := hW6.ptj (k := 2) (v := (c.tj 2) - ((((c.aj 17 k) + (((c.aj 17 k) * 500) / 10000)) + (f_X4_flow (c.paj 17 k ((c.aj 17 k) + (((c.aj 17 k) * 500) / 10000))) k (c.ti 1))) - (c.aj 18 k)))
              have hF15 := hF6.uJ (a := w.mm) (k := 2) (v := (c.tj 2) - ((((c.aj 17 k) + (((c.aj 17 k) * 500) / 10000)) + (f_X4_flow (c.paj 17 k ((c.aj 17 k) + (((c.aj 17 k) * 500) / 10000))) k (c.ti 1))) - (c.aj 18 k))) (kd := 5) hW6.mm (by decide)
              refine s_aloadn dX4_looksAt_203 rfl rfl ?_
              refine s_getR (n := 78) dX4_looksAt_204 rfl hW15.mm (fun _ _ _ => rfl) (hW15.rr 17 (by decide)).1 ?_
              refine s_iloadn dX4_looksAt_207 rfl rfl ?_
              refine s_dup2 dX4_looksAt_208 rfl rfl ?_
              refine s_lald' (j := k) dX4_looksAt_209 (Or.inr (Or.inl (hW15.rr 17 (by decide)).2.1)) rfl (by rw [(hW15.rr 17 (by decide)).2.2]; exact hk) (by rw [(hW15.rr 17 (by decide)).2.2]; decide) ?_
              rw [hW15.aj 17 (by decide)]
              rw [show ((((((c.paj 17 k ((c.aj 17 k) + (((c.aj 17 k) * 500) / 10000))).paj 17 k (((c.aj 17 k) + (((c.aj 17 k) * 500) / 10000)) + (f_X4_flow (c.paj 17 k ((c.aj 17 k) + (((c.aj 17 k) * 500) / 10000))) k (c.ti 1)))).paj 10 k (c.aj 10 k)).paj 18 k ((c.aj 18 k) - (c.aj 18 k))).paj 17 k ((((c.aj 17 k) + (((c.aj 17 k) * 500) / 10000)) + (f_X4_flow (c.paj 17 k ((c.aj 17 k) + (((c.aj 17 k) * 500) / 10000))) k (c.ti 1))) - (c.aj 18 k))).ptj 2 ((c.tj 2) - ((((c.aj 17 k) + (((c.aj 17 k) * 500) / 10000)) + (f_X4_flow (c.paj 17 k ((c.aj 17 k) + (((c.aj 17 k) * 500) / 10000))) k (c.ti 1))) - (c.aj 18 k)))).aj 17 k = (((c.aj 17 k) + (((c.aj 17 k) * 500) / 10000)) + (f_X4_flow (c.paj 17 k ((c.aj 17 k) + (((c.aj 17 k) * 500) / 10000))) k (c.ti 1))) - (c.aj 18 k) from (by show up2 _ 17 k _ 17 k = _; exact up2_self)]
              refine s_lload dX4_looksAt_210 rfl ?_
              refine s_lsub dX4_looksAt_212 ?_
              refine s_last' (j := k) dX4_looksAt_213 (Or.inr (Or.inl (hW15.rr 17 (by decide)).2.1)) rfl (by rw [(hW15.rr 17 (by decide)).2.2]; exact hk) (by rw [(hW15.rr 17 (by decide)).2.2]; decide) ?_
              have hW16 := hW15.paj (f := 17) (by decide) (k := k) (v := ((((c.aj 17 k) + (((c.aj 17 k) * 500) / 10000)) + (f_X4_flow (c.paj 17 k ((c.aj 17 k) + (((c.aj 17 k) * 500) / 10000))) k (c.ti 1))) - (c.aj 18 k)) - ((((c.aj 17 k) + (((c.aj 17 k) * 500) / 10000)) + (f_X4_flow (c.paj 17 k ((c.aj 17 k) + (((c.aj 17 k) * 500) / 10000))) k (c.ti 1))) - (c.aj 18 k)))
              have hF16 := hF15.uJ (a := (w.ar 17)) (k := k) (v := ((((c.aj 17 k) + (((c.aj 17 k) * 500) / 10000)) + (f_X4_flow (c.paj 17 k ((c.aj 17 k) + (((c.aj 17 k) * 500) / 10000))) k (c.ti 1))) - (c.aj 18 k)) - ((((c.aj 17 k) + (((c.aj 17 k) * 500) / 10000)) + (f_X4_flow (c.paj 17 k ((c.aj 17 k) + (((c.aj 17 k) * 500) / 10000))) k (c.ti 1))) - (c.aj 18 k))) (kd := 10) ((hW15.rr 17 (by decide)).2.1) (by decide)
              refine s_lload dX4_looksAt_214 rfl ?_
              refine s_lload dX4_looksAt_216 rfl ?_
              refine s_ladd dX4_looksAt_218 ?_
              refine s_lstoren dX4_looksAt_219 rfl (by decide) ?_
              refine s_aloadn dX4_looksAt_220 rfl rfl ?_
              refine s_getR (n := 80) dX4_looksAt_221 rfl hW16.mm (fun _ _ _ => rfl) (hW16.rr 19 (by decide)).1 ?_
              refine s_iloadn dX4_looksAt_224 rfl rfl ?_
              refine s_dup2 dX4_looksAt_225 rfl rfl ?_
              refine s_lald' (j := k) dX4_looksAt_226 (Or.inr (Or.inl (hW16.rr 19 (by decide)).2.1)) rfl (by rw [(hW16.rr 19 (by decide)).2.2]; exact hk) (by rw [(hW16.rr 19 (by decide)).2.2]; decide) ?_
              rw [hW16.aj 19 (by decide)]
              rw [show (((((((c.paj 17 k ((c.aj 17 k) + (((c.aj 17 k) * 500) / 10000))).paj 17 k (((c.aj 17 k) + (((c.aj 17 k) * 500) / 10000)) + (f_X4_flow (c.paj 17 k ((c.aj 17 k) + (((c.aj 17 k) * 500) / 10000))) k (c.ti 1)))).paj 10 k (c.aj 10 k)).paj 18 k ((c.aj 18 k) - (c.aj 18 k))).paj 17 k ((((c.aj 17 k) + (((c.aj 17 k) * 500) / 10000)) + (f_X4_flow (c.paj 17 k ((c.aj 17 k) + (((c.aj 17 k) * 500) / 10000))) k (c.ti 1))) - (c.aj 18 k))).ptj 2 ((c.tj 2) - ((((c.aj 17 k) + (((c.aj 17 k) * 500) / 10000)) + (f_X4_flow (c.paj 17 k ((c.aj 17 k) + (((c.aj 17 k) * 500) / 10000))) k (c.ti 1))) - (c.aj 18 k)))).paj 17 k (((((c.aj 17 k) + (((c.aj 17 k) * 500) / 10000)) + (f_X4_flow (c.paj 17 k ((c.aj 17 k) + (((c.aj 17 k) * 500) / 10000))) k (c.ti 1))) - (c.aj 18 k)) - ((((c.aj 17 k) + (((c.aj 17 k) * 500) / 10000)) + (f_X4_flow (c.paj 17 k ((c.aj 17 k) + (((c.aj 17 k) * 500) / 10000))) k (c.ti 1))) - (c.aj 18 k)))).aj 19 k = (c.aj 19 k) from (rfl)]
              refine s_lloadn dX4_looksAt_227 rfl rfl ?_
              refine s_ladd dX4_looksAt_228 ?_
              refine s_last' (j := k) dX4_looksAt_229 (Or.inr (Or.inl (hW16.rr 19 (by decide)).2.1)) rfl (by rw [(hW16.rr 19 (by decide)).2.2]; exact hk) (by rw [(hW16.rr 19 (by decide)).2.2]; decide) ?_
              have hW17 := hW16.paj (f := 19) (by decide) (k := k) (v := (c.aj 19 k) + ((c.aj 18 k) + ((((c.aj 17 k) + (((c.aj 17 k) * 500) / 10000)) + (f_X4_flow (c.paj 17 k ((c.aj 17 k) + (((c.aj 17 k) * 500) / 10000))) k (c.ti 1))) - (c.aj 18 k))))
              have hF17 := hF16.uJ (a := (w.ar 19)) (k := k) (v := (c.aj 19 k) + ((c.aj 18 k) + ((((c.aj 17 k) + (((c.aj 17 k) * 500) / 10000)) + (f_X4_flow (c.paj 17 k ((c.aj 17 k) + (((c.aj 17 k) * 500) / 10000))) k (c.ti 1))) - (c.aj 18 k)))) (kd := 10) ((hW16.rr 19 (by decide)).2.1) (by decide)
              refine s_aloadn dX4_looksAt_230 rfl rfl ?_
              refine s_getR (n := 73) dX4_looksAt_231 rfl hW17.mm (fun _ _ _ => rfl) (hW17.rr 12 (by decide)).1 ?_
              refine s_iloadn dX4_looksAt_234 rfl rfl ?_
              refine s_iald' (j := k) dX4_looksAt_235 ((hW17.rr 12 (by decide)).2.1) rfl (by rw [(hW17.rr 12 (by decide)).2.2]; exact hk) (by rw [(hW17.rr 12 (by decide)).2.2]; decide) ?_
              rw [hW17.ai 12 (by decide)]
              refine s_aloadn dX4_looksAt_236 rfl rfl ?_
              refine s_get (v := .int (c.ti 1)) (n := 62) dX4_looksAt_237 rfl hW17.mm (congrArg Value.int (congrFun hW17.ti 1)) ?_
              refine s_icgt (tgt := 259) dX4_looksAt_240 (by decide) (fun c_240 => ?_) (fun c_240 => ?_)
              · skip
                refine s_lloadn dX4_looksAt_259 rfl rfl ?_
                exact s_retl dX4_looksAt_260 rfl (NJ.of (F := f_X4_looksAt c k) (x := (c.aj 18 k) + ((((c.aj 17 k) + (((c.aj 17 k) * 500) / 10000)) + (f_X4_flow (c.paj 17 k ((c.aj 17 k) + (((c.aj 17 k) * 500) / 10000))) k (c.ti 1))) - (c.aj 18 k))) (by unfold f_X4_looksAt; rw [if_neg c_8, if_neg c_67, if_pos c_93, if_pos c_147, if_pos c_155, if_neg c_173, if_pos c_240]) hW17 hF17)
              · skip
                refine s_aloadn dX4_looksAt_243 rfl rfl ?_
                refine s_getR (n := 78) dX4_looksAt_244 rfl hW17.mm (fun _ _ _ => rfl) (hW17.rr 17 (by decide)).1 ?_
                refine s_iloadn dX4_looksAt_247 rfl rfl ?_
                refine s_lald' (j := k) dX4_looksAt_248 (Or.inr (Or.inl (hW17.rr 17 (by decide)).2.1)) rfl (by rw [(hW17.rr 17 (by decide)).2.2]; exact hk) (by rw [(hW17.rr 17 (by decide)).2.2]; decide) ?_
                rw [hW17.aj 17 (by decide)]
                rw [show ((((((((c.paj 17 k ((c.aj 17 k) + (((c.aj 17 k) * 500) / 10000))).paj 17 k (((c.aj 17 k) + (((c.aj 17 k) * 500) / 10000)) + (f_X4_flow (c.paj 17 k ((c.aj 17 k) + (((c.aj 17 k) * 500) / 10000))) k (c.ti 1)))).paj 10 k (c.aj 10 k)).paj 18 k ((c.aj 18 k) - (c.aj 18 k))).paj 17 k ((((c.aj 17 k) + (((c.aj 17 k) * 500) / 10000)) + (f_X4_flow (c.paj 17 k ((c.aj 17 k) + (((c.aj 17 k) * 500) / 10000))) k (c.ti 1))) - (c.aj 18 k))).ptj 2 ((c.tj 2) - ((((c.aj 17 k) + (((c.aj 17 k) * 500) / 10000)) + (f_X4_flow (c.paj 17 k ((c.aj 17 k) + (((c.aj 17 k) * 500) / 10000))) k (c.ti 1))) - (c.aj 18 k)))).paj 17 k (((((c.aj 17 k) + (((c.aj 17 k) * 500) / 10000)) + (f_X4_flow (c.paj 17 k ((c.aj 17 k) + (((c.aj 17 k) * 500) / 10000))) k (c.ti 1))) - (c.aj 18 k)) - ((((c.aj 17 k) + (((c.aj 17 k) * 500) / 10000)) + (f_X4_flow (c.paj 17 k ((c.aj 17 k) + (((c.aj 17 k) * 500) / 10000))) k (c.ti 1))) - (c.aj 18 k)))).paj 19 k ((c.aj 19 k) + ((c.aj 18 k) + ((((c.aj 17 k) + (((c.aj 17 k) * 500) / 10000)) + (f_X4_flow (c.paj 17 k ((c.aj 17 k) + (((c.aj 17 k) * 500) / 10000))) k (c.ti 1))) - (c.aj 18 k))))).aj 17 k = ((((c.aj 17 k) + (((c.aj 17 k) * 500) / 10000)) + (f_X4_flow (c.paj 17 k ((c.aj 17 k) + (((c.aj 17 k) * 500) / 10000))) k (c.ti 1))) - (c.aj 18 k)) - ((((c.aj 17 k) + (((c.aj 17 k) * 500) / 10000)) + (f_X4_flow (c.paj 17 k ((c.aj 17 k) + (((c.aj 17 k) * 500) / 10000))) k (c.ti 1))) - (c.aj 18 k)) from (by show up2 _ 17 k _ 17 k = _; exact up2_self)]
                refine s_lconst (v := 0) dX4_looksAt_249 (by decide) ?_
                refine s_lcne (tgt := 259) dX4_looksAt_250 dX4_looksAt_251 (by decide) (fun c_250 => ?_) (fun c_250 => ?_)
                · skip
                  refine s_lloadn dX4_looksAt_259 rfl rfl ?_
                  exact s_retl dX4_looksAt_260 rfl (NJ.of (F := f_X4_looksAt c k) (x := (c.aj 18 k) + ((((c.aj 17 k) + (((c.aj 17 k) * 500) / 10000)) + (f_X4_flow (c.paj 17 k ((c.aj 17 k) + (((c.aj 17 k) * 500) / 10000))) k (c.ti 1))) - (c.aj 18 k))) (by unfold f_X4_looksAt; rw [if_neg c_8, if_neg c_67, if_pos c_93, if_pos c_147, if_pos c_155, if_neg c_173, if_neg c_240, if_neg c_250]) hW17 hF17)
                · skip
                  refine s_aloadn dX4_looksAt_254 rfl rfl ?_
                  refine s_iloadn dX4_looksAt_255 rfl rfl ?_
                  refine s_cv1G (n := 55) dX4_looksAt_256 rfl (kv hW17.mm (by decide) rfl) rfl (by decide) (by decide) (by decide) (by decide) (Nat.le_of_ble_eq_true rfl) (m_X4_ends hW17 hk) (fun r18 S18 hr18 => ?_) (fun x S2 hr => by obtain ⟨e, -⟩ := hr; cases e)
                  obtain ⟨e18, hW18, hG18⟩ := hr18
                  cases e18
                  have hF18 := hF17.tr hG18
                  refine s_lloadn dX4_looksAt_259 rfl rfl ?_
                  exact s_retl dX4_looksAt_260 rfl (NJ.of (F := f_X4_looksAt c k) (x := (c.aj 18 k) + ((((c.aj 17 k) + (((c.aj 17 k) * 500) / 10000)) + (f_X4_flow (c.paj 17 k ((c.aj 17 k) + (((c.aj 17 k) * 500) / 10000))) k (c.ti 1))) - (c.aj 18 k))) (by unfold f_X4_looksAt; rw [if_neg c_8, if_neg c_67, if_pos c_93, if_pos c_147, if_pos c_155, if_neg c_173, if_neg c_240, if_pos c_250]) hW18 hF18)
          · skip
            refine s_lconst (v := 0) dX4_looksAt_159 (by decide) ?_
            refine s_goto (tgt := 190) dX4_looksAt_160 (by decide) ?_
            refine s_lstore dX4_looksAt_190 (by decide) ?_
            refine s_aloadn dX4_looksAt_192 rfl rfl ?_
            refine s_dup dX4_looksAt_193 rfl ?_
            refine s_get (v := .long (c.tj 2)) (n := 63) dX4_looksAt_194 rfl hW6.mm (congrArg Value.long (congrFun hW6.tj 2)) ?_
            refine s_lload dX4_looksAt_197 rfl ?_
            refine s_lsub dX4_looksAt_199 ?_
            refine s_putJ (n := 63) dX4_looksAt_200 rfl hW6.mm (Or.inl rfl) (fun _ _ _ => rfl) rfl rfl ?_
            have hW19 := hW6.ptj (k := 2) (v := (c.tj 2) - 0)
            have hF19 := hF6.uJ (a := w.mm) (k := 2) (v := (c.tj 2) - 0) (kd := 5) hW6.mm (by decide)
            refine s_aloadn dX4_looksAt_203 rfl rfl ?_
            refine s_getR (n := 78) dX4_looksAt_204 rfl hW19.mm (fun _ _ _ => rfl) (hW19.rr 17 (by decide)).1 ?_
            refine s_iloadn dX4_looksAt_207 rfl rfl ?_
            refine s_dup2 dX4_looksAt_208 rfl rfl ?_
            refine s_lald' (j := k) dX4_looksAt_209 (Or.inr (Or.inl (hW19.rr 17 (by decide)).2.1)) rfl (by rw [(hW19.rr 17 (by decide)).2.2]; exact hk) (by rw [(hW19.rr 17 (by decide)).2.2]; decide) ?_
            rw [hW19.aj 17 (by decide)]
            rw [show ((((((c.paj 17 k ((c.aj 17 k) + (((c.aj 17 k) * 500) / 10000))).paj 17 k (((c.aj 17 k) + (((c.aj 17 k) * 500) / 10000)) + (f_X4_flow (c.paj 17 k ((c.aj 17 k) + (((c.aj 17 k) * 500) / 10000))) k (c.ti 1)))).paj 10 k (c.aj 10 k)).paj 18 k ((c.aj 18 k) - (c.aj 18 k))).paj 17 k ((((c.aj 17 k) + (((c.aj 17 k) * 500) / 10000)) + (f_X4_flow (c.paj 17 k ((c.aj 17 k) + (((c.aj 17 k) * 500) / 10000))) k (c.ti 1))) - (c.aj 18 k))).ptj 2 ((c.tj 2) - 0)).aj 17 k = (((c.aj 17 k) + (((c.aj 17 k) * 500) / 10000)) + (f_X4_flow (c.paj 17 k ((c.aj 17 k) + (((c.aj 17 k) * 500) / 10000))) k (c.ti 1))) - (c.aj 18 k) from (by show up2 _ 17 k _ 17 k = _; exact up2_self)]
            refine s_lload dX4_looksAt_210 rfl ?_
            refine s_lsub dX4_looksAt_212 ?_
            refine s_last' (j := k) dX4_looksAt_213 (Or.inr (Or.inl (hW19.rr 17 (by decide)).2.1)) rfl (by rw [(hW19.rr 17 (by decide)).2.2]; exact hk) (by rw [(hW19.rr 17 (by decide)).2.2]; decide) ?_
            have hW20 := hW19.paj (f := 17) (by decide) (k := k) (v := ((((c.aj 17 k) + (((c.aj 17 k) * 500) / 10000)) + (f_X4_flow (c.paj 17 k ((c.aj 17 k) + (((c.aj 17 k) * 500) / 10000))) k (c.ti 1))) - (c.aj 18 k)) - 0)
            have hF20 := hF19.uJ (a := (w.ar 17)) (k := k) (v := ((((c.aj 17 k) + (((c.aj 17 k) * 500) / 10000)) + (f_X4_flow (c.paj 17 k ((c.aj 17 k) + (((c.aj 17 k) * 500) / 10000))) k (c.ti 1))) - (c.aj 18 k)) - 0) (kd := 10) ((hW19.rr 17 (by decide)).2.1) (by decide)
            refine s_lload dX4_looksAt_214 rfl ?_
            refine s_lload dX4_looksAt_216 rfl ?_
            refine s_ladd dX4_looksAt_218 ?_
            refine s_lstoren dX4_looksAt_219 rfl (by decide) ?_
            refine s_aloadn dX4_looksAt_220 rfl rfl ?_
            refine s_getR (n := 80) dX4_looksAt_221 rfl hW20.mm (fun _ _ _ => rfl) (hW20.rr 19 (by decide)).1 ?_
            refine s_iloadn dX4_looksAt_224 rfl rfl ?_
            refine s_dup2 dX4_looksAt_225 rfl rfl ?_
            refine s_lald' (j := k) dX4_looksAt_226 (Or.inr (Or.inl (hW20.rr 19 (by decide)).2.1)) rfl (by rw [(hW20.rr 19 (by decide)).2.2]; exact hk) (by rw [(hW20.rr 19 (by decide)).2.2]; decide) ?_
            rw [hW20.aj 19 (by decide)]
            rw [show (((((((c.paj 17 k ((c.aj 17 k) + (((c.aj 17 k) * 500) / 10000))).paj 17 k (((c.aj 17 k) + (((c.aj 17 k) * 500) / 10000)) + (f_X4_flow (c.paj 17 k ((c.aj 17 k) + (((c.aj 17 k) * 500) / 10000))) k (c.ti 1)))).paj 10 k (c.aj 10 k)).paj 18 k ((c.aj 18 k) - (c.aj 18 k))).paj 17 k ((((c.aj 17 k) + (((c.aj 17 k) * 500) / 10000)) + (f_X4_flow (c.paj 17 k ((c.aj 17 k) + (((c.aj 17 k) * 500) / 10000))) k (c.ti 1))) - (c.aj 18 k))).ptj 2 ((c.tj 2) - 0)).paj 17 k (((((c.aj 17 k) + (((c.aj 17 k) * 500) / 10000)) + (f_X4_flow (c.paj 17 k ((c.aj 17 k) + (((c.aj 17 k) * 500) / 10000))) k (c.ti 1))) - (c.aj 18 k)) - 0)).aj 19 k = (c.aj 19 k) from (rfl)]
            refine s_lloadn dX4_looksAt_227 rfl rfl ?_
            refine s_ladd dX4_looksAt_228 ?_
            refine s_last' (j := k) dX4_looksAt_229 (Or.inr (Or.inl (hW20.rr 19 (by decide)).2.1)) rfl (by rw [(hW20.rr 19 (by decide)).2.2]; exact hk) (by rw [(hW20.rr 19 (by decide)).2.2]; decide) ?_
            have hW21 := hW20.paj (f := 19) (by decide) (k := k) (v := (c.aj 19 k) + ((c.aj 18 k) + 0))
            have hF21 := hF20.uJ (a := (w.ar 19)) (k := k) (v := (c.aj 19 k) + ((c.aj 18 k) + 0)) (kd := 10) ((hW20.rr 19 (by decide)).2.1) (by decide)
            refine s_aloadn dX4_looksAt_230 rfl rfl ?_
            refine s_getR (n := 73) dX4_looksAt_231 rfl hW21.mm (fun _ _ _ => rfl) (hW21.rr 12 (by decide)).1 ?_
            refine s_iloadn dX4_looksAt_234 rfl rfl ?_
            refine s_iald' (j := k) dX4_looksAt_235 ((hW21.rr 12 (by decide)).2.1) rfl (by rw [(hW21.rr 12 (by decide)).2.2]; exact hk) (by rw [(hW21.rr 12 (by decide)).2.2]; decide) ?_
            rw [hW21.ai 12 (by decide)]
            refine s_aloadn dX4_looksAt_236 rfl rfl ?_
            refine s_get (v := .int (c.ti 1)) (n := 62) dX4_looksAt_237 rfl hW21.mm (congrArg Value.int (congrFun hW21.ti 1)) ?_
            refine s_icgt (tgt := 259) dX4_looksAt_240 (by decide) (fun c_240 => ?_) (fun c_240 => ?_)
            · skip
              refine s_lloadn dX4_looksAt_259 rfl rfl ?_
              exact s_retl dX4_looksAt_260 rfl (NJ.of (F := f_X4_looksAt c k) (x := (c.aj 18 k) + 0) (by unfold f_X4_looksAt; rw [if_neg c_8, if_neg c_67, if_pos c_93, if_pos c_147, if_neg c_155, if_pos c_240]) hW21 hF21)
            · skip
              refine s_aloadn dX4_looksAt_243 rfl rfl ?_
              refine s_getR (n := 78) dX4_looksAt_244 rfl hW21.mm (fun _ _ _ => rfl) (hW21.rr 17 (by decide)).1 ?_
              refine s_iloadn dX4_looksAt_247 rfl rfl ?_
              refine s_lald' (j := k) dX4_looksAt_248 (Or.inr (Or.inl (hW21.rr 17 (by decide)).2.1)) rfl (by rw [(hW21.rr 17 (by decide)).2.2]; exact hk) (by rw [(hW21.rr 17 (by decide)).2.2]; decide) ?_
              rw [hW21.aj 17 (by decide)]
              rw [show ((((((((c.paj 17 k ((c.aj 17 k) + (((c.aj 17 k) * 500) / 10000))).paj 17 k (((c.aj 17 k) + (((c.aj 17 k) * 500) / 10000)) + (f_X4_flow (c.paj 17 k ((c.aj 17 k) + (((c.aj 17 k) * 500) / 10000))) k (c.ti 1)))).paj 10 k (c.aj 10 k)).paj 18 k ((c.aj 18 k) - (c.aj 18 k))).paj 17 k ((((c.aj 17 k) + (((c.aj 17 k) * 500) / 10000)) + (f_X4_flow (c.paj 17 k ((c.aj 17 k) + (((c.aj 17 k) * 500) / 10000))) k (c.ti 1))) - (c.aj 18 k))).ptj 2 ((c.tj 2) - 0)).paj 17 k (((((c.aj 17 k) + (((c.aj 17 k) * 500) / 10000)) + (f_X4_flow (c.paj 17 k ((c.aj 17 k) + (((c.aj 17 k) * 500) / 10000))) k (c.ti 1))) - (c.aj 18 k)) - 0)).paj 19 k ((c.aj 19 k) + ((c.aj 18 k) + 0))).aj 17 k = ((((c.aj 17 k) + (((c.aj 17 k) * 500) / 10000)) + (f_X4_flow (c.paj 17 k ((c.aj 17 k) + (((c.aj 17 k) * 500) / 10000))) k (c.ti 1))) - (c.aj 18 k)) - 0 from (by show up2 _ 17 k _ 17 k = _; exact up2_self)]
              refine s_lconst (v := 0) dX4_looksAt_249 (by decide) ?_
              refine s_lcne (tgt := 259) dX4_looksAt_250 dX4_looksAt_251 (by decide) (fun c_250 => ?_) (fun c_250 => ?_)
              · skip
                refine s_lloadn dX4_looksAt_259 rfl rfl ?_
                exact s_retl dX4_looksAt_260 rfl (NJ.of (F := f_X4_looksAt c k) (x := (c.aj 18 k) + 0) (by unfold f_X4_looksAt; rw [if_neg c_8, if_neg c_67, if_pos c_93, if_pos c_147, if_neg c_155, if_neg c_240, if_neg c_250]) hW21 hF21)
              · skip
                refine s_aloadn dX4_looksAt_254 rfl rfl ?_
                refine s_iloadn dX4_looksAt_255 rfl rfl ?_
                refine s_cv1G (n := 55) dX4_looksAt_256 rfl (kv hW21.mm (by decide) rfl) rfl (by decide) (by decide) (by decide) (by decide) (Nat.le_of_ble_eq_true rfl) (m_X4_ends hW21 hk) (fun r22 S22 hr22 => ?_) (fun x S2 hr => by obtain ⟨e, -⟩ := hr; cases e)
                obtain ⟨e22, hW22, hG22⟩ := hr22
                cases e22
                have hF22 := hF21.tr hG22
                refine s_lloadn dX4_looksAt_259 rfl rfl ?_
                exact s_retl dX4_looksAt_260 rfl (NJ.of (F := f_X4_looksAt c k) (x := (c.aj 18 k) + 0) (by unfold f_X4_looksAt; rw [if_neg c_8, if_neg c_67, if_pos c_93, if_pos c_147, if_neg c_155, if_neg c_240, if_pos c_250]) hW22 hF22)
      · skip
        refine s_aloadn dX4_looksAt_97 rfl rfl ?_
        refine s_getR (n := 78) dX4_looksAt_98 rfl hW4.mm (fun _ _ _ => rfl) (hW4.rr 17 (by decide)).1 ?_
        refine s_iloadn dX4_looksAt_101 rfl rfl ?_
        refine s_lald' (j := k) dX4_looksAt_102 (Or.inr (Or.inl (hW4.rr 17 (by decide)).2.1)) rfl (by rw [(hW4.rr 17 (by decide)).2.2]; exact hk) (by rw [(hW4.rr 17 (by decide)).2.2]; decide) ?_
        rw [hW4.aj 17 (by decide)]
        rw [show (((c.paj 17 k ((c.aj 17 k) + (((c.aj 17 k) * 500) / 10000))).paj 17 k (((c.aj 17 k) + (((c.aj 17 k) * 500) / 10000)) + (f_X4_flow (c.paj 17 k ((c.aj 17 k) + (((c.aj 17 k) * 500) / 10000))) k (c.ti 1)))).paj 10 k (c.aj 10 k)).aj 17 k = ((c.aj 17 k) + (((c.aj 17 k) * 500) / 10000)) + (f_X4_flow (c.paj 17 k ((c.aj 17 k) + (((c.aj 17 k) * 500) / 10000))) k (c.ti 1)) from (by show up2 _ 17 k _ 17 k = _; exact up2_self)]
        refine s_goto (tgt := 112) dX4_looksAt_103 (by decide) ?_
        refine s_lstore dX4_looksAt_112 (by decide) ?_
        refine s_aloadn dX4_looksAt_114 rfl rfl ?_
        refine s_getR (n := 79) dX4_looksAt_115 rfl hW4.mm (fun _ _ _ => rfl) (hW4.rr 18 (by decide)).1 ?_
        refine s_iloadn dX4_looksAt_118 rfl rfl ?_
        refine s_dup2 dX4_looksAt_119 rfl rfl ?_
        refine s_lald' (j := k) dX4_looksAt_120 (Or.inr (Or.inl (hW4.rr 18 (by decide)).2.1)) rfl (by rw [(hW4.rr 18 (by decide)).2.2]; exact hk) (by rw [(hW4.rr 18 (by decide)).2.2]; decide) ?_
        rw [hW4.aj 18 (by decide)]
        rw [show (((c.paj 17 k ((c.aj 17 k) + (((c.aj 17 k) * 500) / 10000))).paj 17 k (((c.aj 17 k) + (((c.aj 17 k) * 500) / 10000)) + (f_X4_flow (c.paj 17 k ((c.aj 17 k) + (((c.aj 17 k) * 500) / 10000))) k (c.ti 1)))).paj 10 k (c.aj 10 k)).aj 18 k = (c.aj 18 k) from (rfl)]
        refine s_lload dX4_looksAt_121 rfl ?_
        refine s_lsub dX4_looksAt_123 ?_
        refine s_last' (j := k) dX4_looksAt_124 (Or.inr (Or.inl (hW4.rr 18 (by decide)).2.1)) rfl (by rw [(hW4.rr 18 (by decide)).2.2]; exact hk) (by rw [(hW4.rr 18 (by decide)).2.2]; decide) ?_
        have hW23 := hW4.paj (f := 18) (by decide) (k := k) (v := (c.aj 18 k) - (((c.aj 17 k) + (((c.aj 17 k) * 500) / 10000)) + (f_X4_flow (c.paj 17 k ((c.aj 17 k) + (((c.aj 17 k) * 500) / 10000))) k (c.ti 1))))
        have hF23 := hF4.uJ (a := (w.ar 18)) (k := k) (v := (c.aj 18 k) - (((c.aj 17 k) + (((c.aj 17 k) * 500) / 10000)) + (f_X4_flow (c.paj 17 k ((c.aj 17 k) + (((c.aj 17 k) * 500) / 10000))) k (c.ti 1)))) (kd := 10) ((hW4.rr 18 (by decide)).2.1) (by decide)
        refine s_aloadn dX4_looksAt_125 rfl rfl ?_
        refine s_getR (n := 78) dX4_looksAt_126 rfl hW23.mm (fun _ _ _ => rfl) (hW23.rr 17 (by decide)).1 ?_
        refine s_iloadn dX4_looksAt_129 rfl rfl ?_
        refine s_dup2 dX4_looksAt_130 rfl rfl ?_
        refine s_lald' (j := k) dX4_looksAt_131 (Or.inr (Or.inl (hW23.rr 17 (by decide)).2.1)) rfl (by rw [(hW23.rr 17 (by decide)).2.2]; exact hk) (by rw [(hW23.rr 17 (by decide)).2.2]; decide) ?_
        rw [hW23.aj 17 (by decide)]
        rw [show ((((c.paj 17 k ((c.aj 17 k) + (((c.aj 17 k) * 500) / 10000))).paj 17 k (((c.aj 17 k) + (((c.aj 17 k) * 500) / 10000)) + (f_X4_flow (c.paj 17 k ((c.aj 17 k) + (((c.aj 17 k) * 500) / 10000))) k (c.ti 1)))).paj 10 k (c.aj 10 k)).paj 18 k ((c.aj 18 k) - (((c.aj 17 k) + (((c.aj 17 k) * 500) / 10000)) + (f_X4_flow (c.paj 17 k ((c.aj 17 k) + (((c.aj 17 k) * 500) / 10000))) k (c.ti 1))))).aj 17 k = ((c.aj 17 k) + (((c.aj 17 k) * 500) / 10000)) + (f_X4_flow (c.paj 17 k ((c.aj 17 k) + (((c.aj 17 k) * 500) / 10000))) k (c.ti 1)) from (by show up2 _ 17 k _ 17 k = _; exact up2_self)]
        refine s_lload dX4_looksAt_132 rfl ?_
        refine s_lsub dX4_looksAt_134 ?_
        refine s_last' (j := k) dX4_looksAt_135 (Or.inr (Or.inl (hW23.rr 17 (by decide)).2.1)) rfl (by rw [(hW23.rr 17 (by decide)).2.2]; exact hk) (by rw [(hW23.rr 17 (by decide)).2.2]; decide) ?_
        have hW24 := hW23.paj (f := 17) (by decide) (k := k) (v := (((c.aj 17 k) + (((c.aj 17 k) * 500) / 10000)) + (f_X4_flow (c.paj 17 k ((c.aj 17 k) + (((c.aj 17 k) * 500) / 10000))) k (c.ti 1))) - (((c.aj 17 k) + (((c.aj 17 k) * 500) / 10000)) + (f_X4_flow (c.paj 17 k ((c.aj 17 k) + (((c.aj 17 k) * 500) / 10000))) k (c.ti 1))))
        have hF24 := hF23.uJ (a := (w.ar 17)) (k := k) (v := (((c.aj 17 k) + (((c.aj 17 k) * 500) / 10000)) + (f_X4_flow (c.paj 17 k ((c.aj 17 k) + (((c.aj 17 k) * 500) / 10000))) k (c.ti 1))) - (((c.aj 17 k) + (((c.aj 17 k) * 500) / 10000)) + (f_X4_flow (c.paj 17 k ((c.aj 17 k) + (((c.aj 17 k) * 500) / 10000))) k (c.ti 1)))) (kd := 10) ((hW23.rr 17 (by decide)).2.1) (by decide)
        refine s_aloadn dX4_looksAt_136 rfl rfl ?_
        refine s_getR (n := 83) dX4_looksAt_137 rfl hW24.mm (fun _ _ _ => rfl) (hW24.rr 22 (by decide)).1 ?_
        refine s_aloadn dX4_looksAt_140 rfl rfl ?_
        refine s_getR (n := 69) dX4_looksAt_141 rfl hW24.mm (fun _ _ _ => rfl) (hW24.rr 8 (by decide)).1 ?_
        refine s_iloadn dX4_looksAt_144 rfl rfl ?_
        refine s_iald' (j := k) dX4_looksAt_145 ((hW24.rr 8 (by decide)).2.1) rfl (by rw [(hW24.rr 8 (by decide)).2.2]; exact hk) (by rw [(hW24.rr 8 (by decide)).2.2]; decide) ?_
        rw [hW24.ai 8 (by decide)]
        refine s_zald' (j := (ix (c.ai 8 k))) dX4_looksAt_146 ((hW24.rr 22 (by decide)).2.1) (ix_nI hK.1).symm (by rw [(hW24.rr 22 (by decide)).2.2]; exact (ix_of hK.1 hK.2 (by decide))) (by rw [(hW24.rr 22 (by decide)).2.2]; decide) ?_
        rw [hW24.ai 22 (by decide)]
        refine s_ifne (tgt := 159) dX4_looksAt_147 (by decide) (fun c_147 => ?_) (fun c_147 => ?_)
        · skip
          refine s_lconst (v := 0) dX4_looksAt_159 (by decide) ?_
          refine s_goto (tgt := 190) dX4_looksAt_160 (by decide) ?_
          refine s_lstore dX4_looksAt_190 (by decide) ?_
          refine s_aloadn dX4_looksAt_192 rfl rfl ?_
          refine s_dup dX4_looksAt_193 rfl ?_
          refine s_get (v := .long (c.tj 2)) (n := 63) dX4_looksAt_194 rfl hW24.mm (congrArg Value.long (congrFun hW24.tj 2)) ?_
          refine s_lload dX4_looksAt_197 rfl ?_
          refine s_lsub dX4_looksAt_199 ?_
          refine s_putJ (n := 63) dX4_looksAt_200 rfl hW24.mm (Or.inl rfl) (fun _ _ _ => rfl) rfl rfl ?_
          have hW25 := hW24.ptj (k := 2) (v := (c.tj 2) - 0)
          have hF25 := hF24.uJ (a := w.mm) (k := 2) (v := (c.tj 2) - 0) (kd := 5) hW24.mm (by decide)
          refine s_aloadn dX4_looksAt_203 rfl rfl ?_
          refine s_getR (n := 78) dX4_looksAt_204 rfl hW25.mm (fun _ _ _ => rfl) (hW25.rr 17 (by decide)).1 ?_
          refine s_iloadn dX4_looksAt_207 rfl rfl ?_
          refine s_dup2 dX4_looksAt_208 rfl rfl ?_
          refine s_lald' (j := k) dX4_looksAt_209 (Or.inr (Or.inl (hW25.rr 17 (by decide)).2.1)) rfl (by rw [(hW25.rr 17 (by decide)).2.2]; exact hk) (by rw [(hW25.rr 17 (by decide)).2.2]; decide) ?_
          rw [hW25.aj 17 (by decide)]
          rw [show ((((((c.paj 17 k ((c.aj 17 k) + (((c.aj 17 k) * 500) / 10000))).paj 17 k (((c.aj 17 k) + (((c.aj 17 k) * 500) / 10000)) + (f_X4_flow (c.paj 17 k ((c.aj 17 k) + (((c.aj 17 k) * 500) / 10000))) k (c.ti 1)))).paj 10 k (c.aj 10 k)).paj 18 k ((c.aj 18 k) - (((c.aj 17 k) + (((c.aj 17 k) * 500) / 10000)) + (f_X4_flow (c.paj 17 k ((c.aj 17 k) + (((c.aj 17 k) * 500) / 10000))) k (c.ti 1))))).paj 17 k ((((c.aj 17 k) + (((c.aj 17 k) * 500) / 10000)) + (f_X4_flow (c.paj 17 k ((c.aj 17 k) + (((c.aj 17 k) * 500) / 10000))) k (c.ti 1))) - (((c.aj 17 k) + (((c.aj 17 k) * 500) / 10000)) + (f_X4_flow (c.paj 17 k ((c.aj 17 k) + (((c.aj 17 k) * 500) / 10000))) k (c.ti 1))))).ptj 2 ((c.tj 2) - 0)).aj 17 k = (((c.aj 17 k) + (((c.aj 17 k) * 500) / 10000)) + (f_X4_flow (c.paj 17 k ((c.aj 17 k) + (((c.aj 17 k) * 500) / 10000))) k (c.ti 1))) - (((c.aj 17 k) + (((c.aj 17 k) * 500) / 10000)) + (f_X4_flow (c.paj 17 k ((c.aj 17 k) + (((c.aj 17 k) * 500) / 10000))) k (c.ti 1))) from (by show up2 _ 17 k _ 17 k = _; exact up2_self)]
          refine s_lload dX4_looksAt_210 rfl ?_
          refine s_lsub dX4_looksAt_212 ?_
          refine s_last' (j := k) dX4_looksAt_213 (Or.inr (Or.inl (hW25.rr 17 (by decide)).2.1)) rfl (by rw [(hW25.rr 17 (by decide)).2.2]; exact hk) (by rw [(hW25.rr 17 (by decide)).2.2]; decide) ?_
          have hW26 := hW25.paj (f := 17) (by decide) (k := k) (v := ((((c.aj 17 k) + (((c.aj 17 k) * 500) / 10000)) + (f_X4_flow (c.paj 17 k ((c.aj 17 k) + (((c.aj 17 k) * 500) / 10000))) k (c.ti 1))) - (((c.aj 17 k) + (((c.aj 17 k) * 500) / 10000)) + (f_X4_flow (c.paj 17 k ((c.aj 17 k) + (((c.aj 17 k) * 500) / 10000))) k (c.ti 1)))) - 0)
          have hF26 := hF25.uJ (a := (w.ar 17)) (k := k) (v := ((((c.aj 17 k) + (((c.aj 17 k) * 500) / 10000)) + (f_X4_flow (c.paj 17 k ((c.aj 17 k) + (((c.aj 17 k) * 500) / 10000))) k (c.ti 1))) - (((c.aj 17 k) + (((c.aj 17 k) * 500) / 10000)) + (f_X4_flow (c.paj 17 k ((c.aj 17 k) + (((c.aj 17 k) * 500) / 10000))) k (c.ti 1)))) - 0) (kd := 10) ((hW25.rr 17 (by decide)).2.1) (by decide)
          refine s_lload dX4_looksAt_214 rfl ?_
          refine s_lload dX4_looksAt_216 rfl ?_
          refine s_ladd dX4_looksAt_218 ?_
          refine s_lstoren dX4_looksAt_219 rfl (by decide) ?_
          refine s_aloadn dX4_looksAt_220 rfl rfl ?_
          refine s_getR (n := 80) dX4_looksAt_221 rfl hW26.mm (fun _ _ _ => rfl) (hW26.rr 19 (by decide)).1 ?_
          refine s_iloadn dX4_looksAt_224 rfl rfl ?_
          refine s_dup2 dX4_looksAt_225 rfl rfl ?_
          refine s_lald' (j := k) dX4_looksAt_226 (Or.inr (Or.inl (hW26.rr 19 (by decide)).2.1)) rfl (by rw [(hW26.rr 19 (by decide)).2.2]; exact hk) (by rw [(hW26.rr 19 (by decide)).2.2]; decide) ?_
          rw [hW26.aj 19 (by decide)]
          rw [show (((((((c.paj 17 k ((c.aj 17 k) + (((c.aj 17 k) * 500) / 10000))).paj 17 k (((c.aj 17 k) + (((c.aj 17 k) * 500) / 10000)) + (f_X4_flow (c.paj 17 k ((c.aj 17 k) + (((c.aj 17 k) * 500) / 10000))) k (c.ti 1)))).paj 10 k (c.aj 10 k)).paj 18 k ((c.aj 18 k) - (((c.aj 17 k) + (((c.aj 17 k) * 500) / 10000)) + (f_X4_flow (c.paj 17 k ((c.aj 17 k) + (((c.aj 17 k) * 500) / 10000))) k (c.ti 1))))).paj 17 k ((((c.aj 17 k) + (((c.aj 17 k) * 500) / 10000)) + (f_X4_flow (c.paj 17 k ((c.aj 17 k) + (((c.aj 17 k) * 500) / 10000))) k (c.ti 1))) - (((c.aj 17 k) + (((c.aj 17 k) * 500) / 10000)) + (f_X4_flow (c.paj 17 k ((c.aj 17 k) + (((c.aj 17 k) * 500) / 10000))) k (c.ti 1))))).ptj 2 ((c.tj 2) - 0)).paj 17 k (((((c.aj 17 k) + (((c.aj 17 k) * 500) / 10000)) + (f_X4_flow (c.paj 17 k ((c.aj 17 k) + (((c.aj 17 k) * 500) / 10000))) k (c.ti 1))) - (((c.aj 17 k) + (((c.aj 17 k) * 500) / 10000)) + (f_X4_flow (c.paj 17 k ((c.aj 17 k) + (((c.aj 17 k) * 500) / 10000))) k (c.ti 1)))) - 0)).aj 19 k = (c.aj 19 k) from (rfl)]
          refine s_lloadn dX4_looksAt_227 rfl rfl ?_
          refine s_ladd dX4_looksAt_228 ?_
          refine s_last' (j := k) dX4_looksAt_229 (Or.inr (Or.inl (hW26.rr 19 (by decide)).2.1)) rfl (by rw [(hW26.rr 19 (by decide)).2.2]; exact hk) (by rw [(hW26.rr 19 (by decide)).2.2]; decide) ?_
          have hW27 := hW26.paj (f := 19) (by decide) (k := k) (v := (c.aj 19 k) + ((((c.aj 17 k) + (((c.aj 17 k) * 500) / 10000)) + (f_X4_flow (c.paj 17 k ((c.aj 17 k) + (((c.aj 17 k) * 500) / 10000))) k (c.ti 1))) + 0))
          have hF27 := hF26.uJ (a := (w.ar 19)) (k := k) (v := (c.aj 19 k) + ((((c.aj 17 k) + (((c.aj 17 k) * 500) / 10000)) + (f_X4_flow (c.paj 17 k ((c.aj 17 k) + (((c.aj 17 k) * 500) / 10000))) k (c.ti 1))) + 0)) (kd := 10) ((hW26.rr 19 (by decide)).2.1) (by decide)
          refine s_aloadn dX4_looksAt_230 rfl rfl ?_
          refine s_getR (n := 73) dX4_looksAt_231 rfl hW27.mm (fun _ _ _ => rfl) (hW27.rr 12 (by decide)).1 ?_
          refine s_iloadn dX4_looksAt_234 rfl rfl ?_
          refine s_iald' (j := k) dX4_looksAt_235 ((hW27.rr 12 (by decide)).2.1) rfl (by rw [(hW27.rr 12 (by decide)).2.2]; exact hk) (by rw [(hW27.rr 12 (by decide)).2.2]; decide) ?_
          rw [hW27.ai 12 (by decide)]
          refine s_aloadn dX4_looksAt_236 rfl rfl ?_
          refine s_get (v := .int (c.ti 1)) (n := 62) dX4_looksAt_237 rfl hW27.mm (congrArg Value.int (congrFun hW27.ti 1)) ?_
          refine s_icgt (tgt := 259) dX4_looksAt_240 (by decide) (fun c_240 => ?_) (fun c_240 => ?_)
          · skip
            refine s_lloadn dX4_looksAt_259 rfl rfl ?_
            exact s_retl dX4_looksAt_260 rfl (NJ.of (F := f_X4_looksAt c k) (x := (((c.aj 17 k) + (((c.aj 17 k) * 500) / 10000)) + (f_X4_flow (c.paj 17 k ((c.aj 17 k) + (((c.aj 17 k) * 500) / 10000))) k (c.ti 1))) + 0) (by unfold f_X4_looksAt; rw [if_neg c_8, if_neg c_67, if_neg c_93, if_neg c_147, if_pos c_240]) hW27 hF27)
          · skip
            refine s_aloadn dX4_looksAt_243 rfl rfl ?_
            refine s_getR (n := 78) dX4_looksAt_244 rfl hW27.mm (fun _ _ _ => rfl) (hW27.rr 17 (by decide)).1 ?_
            refine s_iloadn dX4_looksAt_247 rfl rfl ?_
            refine s_lald' (j := k) dX4_looksAt_248 (Or.inr (Or.inl (hW27.rr 17 (by decide)).2.1)) rfl (by rw [(hW27.rr 17 (by decide)).2.2]; exact hk) (by rw [(hW27.rr 17 (by decide)).2.2]; decide) ?_
            rw [hW27.aj 17 (by decide)]
            rw [show ((((((((c.paj 17 k ((c.aj 17 k) + (((c.aj 17 k) * 500) / 10000))).paj 17 k (((c.aj 17 k) + (((c.aj 17 k) * 500) / 10000)) + (f_X4_flow (c.paj 17 k ((c.aj 17 k) + (((c.aj 17 k) * 500) / 10000))) k (c.ti 1)))).paj 10 k (c.aj 10 k)).paj 18 k ((c.aj 18 k) - (((c.aj 17 k) + (((c.aj 17 k) * 500) / 10000)) + (f_X4_flow (c.paj 17 k ((c.aj 17 k) + (((c.aj 17 k) * 500) / 10000))) k (c.ti 1))))).paj 17 k ((((c.aj 17 k) + (((c.aj 17 k) * 500) / 10000)) + (f_X4_flow (c.paj 17 k ((c.aj 17 k) + (((c.aj 17 k) * 500) / 10000))) k (c.ti 1))) - (((c.aj 17 k) + (((c.aj 17 k) * 500) / 10000)) + (f_X4_flow (c.paj 17 k ((c.aj 17 k) + (((c.aj 17 k) * 500) / 10000))) k (c.ti 1))))).ptj 2 ((c.tj 2) - 0)).paj 17 k (((((c.aj 17 k) + (((c.aj 17 k) * 500) / 10000)) + (f_X4_flow (c.paj 17 k ((c.aj 17 k) + (((c.aj 17 k) * 500) / 10000))) k (c.ti 1))) - (((c.aj 17 k) + (((c.aj 17 k) * 500) / 10000)) + (f_X4_flow (c.paj 17 k ((c.aj 17 k) + (((c.aj 17 k) * 500) / 10000))) k (c.ti 1)))) - 0)).paj 19 k ((c.aj 19 k) + ((((c.aj 17 k) + (((c.aj 17 k) * 500) / 10000)) + (f_X4_flow (c.paj 17 k ((c.aj 17 k) + (((c.aj 17 k) * 500) / 10000))) k (c.ti 1))) + 0))).aj 17 k = ((((c.aj 17 k) + (((c.aj 17 k) * 500) / 10000)) + (f_X4_flow (c.paj 17 k ((c.aj 17 k) + (((c.aj 17 k) * 500) / 10000))) k (c.ti 1))) - (((c.aj 17 k) + (((c.aj 17 k) * 500) / 10000)) + (f_X4_flow (c.paj 17 k ((c.aj 17 k) + (((c.aj 17 k) * 500) / 10000))) k (c.ti 1)))) - 0 from (by show up2 _ 17 k _ 17 k = _; exact up2_self)]
            refine s_lconst (v := 0) dX4_looksAt_249 (by decide) ?_
            refine s_lcne (tgt := 259) dX4_looksAt_250 dX4_looksAt_251 (by decide) (fun c_250 => ?_) (fun c_250 => ?_)
            · skip
              refine s_lloadn dX4_looksAt_259 rfl rfl ?_
              exact s_retl dX4_looksAt_260 rfl (NJ.of (F := f_X4_looksAt c k) (x := (((c.aj 17 k) + (((c.aj 17 k) * 500) / 10000)) + (f_X4_flow (c.paj 17 k ((c.aj 17 k) + (((c.aj 17 k) * 500) / 10000))) k (c.ti 1))) + 0) (by unfold f_X4_looksAt; rw [if_neg c_8, if_neg c_67, if_neg c_93, if_neg c_147, if_neg c_240, if_neg c_250]) hW27 hF27)
            · skip
              refine s_aloadn dX4_looksAt_254 rfl rfl ?_
              refine s_iloadn dX4_looksAt_255 rfl rfl ?_
              refine s_cv1G (n := 55) dX4_looksAt_256 rfl (kv hW27.mm (by decide) rfl) rfl (by decide) (by decide) (by decide) (by decide) (Nat.le_of_ble_eq_true rfl) (m_X4_ends hW27 hk) (fun r28 S28 hr28 => ?_) (fun x S2 hr => by obtain ⟨e, -⟩ := hr; cases e)
              obtain ⟨e28, hW28, hG28⟩ := hr28
              cases e28
              have hF28 := hF27.tr hG28
              refine s_lloadn dX4_looksAt_259 rfl rfl ?_
              exact s_retl dX4_looksAt_260 rfl (NJ.of (F := f_X4_looksAt c k) (x := (((c.aj 17 k) + (((c.aj 17 k) * 500) / 10000)) + (f_X4_flow (c.paj 17 k ((c.aj 17 k) + (((c.aj 17 k) * 500) / 10000))) k (c.ti 1))) + 0) (by unfold f_X4_looksAt; rw [if_neg c_8, if_neg c_67, if_neg c_93, if_neg c_147, if_neg c_240, if_pos c_250]) hW28 hF28)
        · skip
          refine s_aloadn dX4_looksAt_150 rfl rfl ?_
          refine s_get (v := .long (c.tj 2)) (n := 63) dX4_looksAt_151 rfl hW24.mm (congrArg Value.long (congrFun hW24.tj 2)) ?_
          refine s_lconst (v := 0) dX4_looksAt_154 (by decide) ?_
          refine s_lcge (tgt := 163) dX4_looksAt_155 dX4_looksAt_156 (by decide) (fun c_155 => ?_) (fun c_155 => ?_)
          · skip
            refine s_aloadn dX4_looksAt_163 rfl rfl ?_
            refine s_getR (n := 78) dX4_looksAt_164 rfl hW24.mm (fun _ _ _ => rfl) (hW24.rr 17 (by decide)).1 ?_
            refine s_iloadn dX4_looksAt_167 rfl rfl ?_
            refine s_lald' (j := k) dX4_looksAt_168 (Or.inr (Or.inl (hW24.rr 17 (by decide)).2.1)) rfl (by rw [(hW24.rr 17 (by decide)).2.2]; exact hk) (by rw [(hW24.rr 17 (by decide)).2.2]; decide) ?_
            rw [hW24.aj 17 (by decide)]
            rw [show (((((c.paj 17 k ((c.aj 17 k) + (((c.aj 17 k) * 500) / 10000))).paj 17 k (((c.aj 17 k) + (((c.aj 17 k) * 500) / 10000)) + (f_X4_flow (c.paj 17 k ((c.aj 17 k) + (((c.aj 17 k) * 500) / 10000))) k (c.ti 1)))).paj 10 k (c.aj 10 k)).paj 18 k ((c.aj 18 k) - (((c.aj 17 k) + (((c.aj 17 k) * 500) / 10000)) + (f_X4_flow (c.paj 17 k ((c.aj 17 k) + (((c.aj 17 k) * 500) / 10000))) k (c.ti 1))))).paj 17 k ((((c.aj 17 k) + (((c.aj 17 k) * 500) / 10000)) + (f_X4_flow (c.paj 17 k ((c.aj 17 k) + (((c.aj 17 k) * 500) / 10000))) k (c.ti 1))) - (((c.aj 17 k) + (((c.aj 17 k) * 500) / 10000)) + (f_X4_flow (c.paj 17 k ((c.aj 17 k) + (((c.aj 17 k) * 500) / 10000))) k (c.ti 1))))).aj 17 k = (((c.aj 17 k) + (((c.aj 17 k) * 500) / 10000)) + (f_X4_flow (c.paj 17 k ((c.aj 17 k) + (((c.aj 17 k) * 500) / 10000))) k (c.ti 1))) - (((c.aj 17 k) + (((c.aj 17 k) * 500) / 10000)) + (f_X4_flow (c.paj 17 k ((c.aj 17 k) + (((c.aj 17 k) * 500) / 10000))) k (c.ti 1))) from (by show up2 _ 17 k _ 17 k = _; exact up2_self)]
            refine s_aloadn dX4_looksAt_169 rfl rfl ?_
            refine s_get (v := .long (c.tj 2)) (n := 63) dX4_looksAt_170 rfl hW24.mm (congrArg Value.long (congrFun hW24.tj 2)) ?_
            refine s_lcge (tgt := 186) dX4_looksAt_173 dX4_looksAt_174 (by decide) (fun c_173 => ?_) (fun c_173 => ?_)
            · skip
              refine s_aloadn dX4_looksAt_186 rfl rfl ?_
              refine s_get (v := .long (c.tj 2)) (n := 63) dX4_looksAt_187 rfl hW24.mm (congrArg Value.long (congrFun hW24.tj 2)) ?_
              refine s_lstore dX4_looksAt_190 (by decide) ?_
              refine s_aloadn dX4_looksAt_192 rfl rfl ?_
              refine s_dup dX4_looksAt_193 rfl ?_
              refine s_get (v := .long (c.tj 2)) (n := 63) dX4_looksAt_194 rfl hW24.mm (congrArg Value.long (congrFun hW24.tj 2)) ?_
              refine s_lload dX4_looksAt_197 rfl ?_
              refine s_lsub dX4_looksAt_199 ?_
              refine s_putJ (n := 63) dX4_looksAt_200 rfl hW24.mm (Or.inl rfl) (fun _ _ _ => rfl) rfl rfl ?_
              have hW29 := hW24.ptj (k := 2) (v := (c.tj 2) - (c.tj 2))
              have hF29 := hF24.uJ (a := w.mm) (k := 2) (v := (c.tj 2) - (c.tj 2)) (kd := 5) hW24.mm (by decide)
              refine s_aloadn dX4_looksAt_203 rfl rfl ?_
              refine s_getR (n := 78) dX4_looksAt_204 rfl hW29.mm (fun _ _ _ => rfl) (hW29.rr 17 (by decide)).1 ?_
              refine s_iloadn dX4_looksAt_207 rfl rfl ?_
              refine s_dup2 dX4_looksAt_208 rfl rfl ?_
              refine s_lald' (j := k) dX4_looksAt_209 (Or.inr (Or.inl (hW29.rr 17 (by decide)).2.1)) rfl (by rw [(hW29.rr 17 (by decide)).2.2]; exact hk) (by rw [(hW29.rr 17 (by decide)).2.2]; decide) ?_
              rw [hW29.aj 17 (by decide)]
              rw [show ((((((c.paj 17 k ((c.aj 17 k) + (((c.aj 17 k) * 500) / 10000))).paj 17 k (((c.aj 17 k) + (((c.aj 17 k) * 500) / 10000)) + (f_X4_flow (c.paj 17 k ((c.aj 17 k) + (((c.aj 17 k) * 500) / 10000))) k (c.ti 1)))).paj 10 k (c.aj 10 k)).paj 18 k ((c.aj 18 k) - (((c.aj 17 k) + (((c.aj 17 k) * 500) / 10000)) + (f_X4_flow (c.paj 17 k ((c.aj 17 k) + (((c.aj 17 k) * 500) / 10000))) k (c.ti 1))))).paj 17 k ((((c.aj 17 k) + (((c.aj 17 k) * 500) / 10000)) + (f_X4_flow (c.paj 17 k ((c.aj 17 k) + (((c.aj 17 k) * 500) / 10000))) k (c.ti 1))) - (((c.aj 17 k) + (((c.aj 17 k) * 500) / 10000)) + (f_X4_flow (c.paj 17 k ((c.aj 17 k) + (((c.aj 17 k) * 500) / 10000))) k (c.ti 1))))).ptj 2 ((c.tj 2) - (c.tj 2))).aj 17 k = (((c.aj 17 k) + (((c.aj 17 k) * 500) / 10000)) + (f_X4_flow (c.paj 17 k ((c.aj 17 k) + (((c.aj 17 k) * 500) / 10000))) k (c.ti 1))) - (((c.aj 17 k) + (((c.aj 17 k) * 500) / 10000)) + (f_X4_flow (c.paj 17 k ((c.aj 17 k) + (((c.aj 17 k) * 500) / 10000))) k (c.ti 1))) from (by show up2 _ 17 k _ 17 k = _; exact up2_self)]
              refine s_lload dX4_looksAt_210 rfl ?_
              refine s_lsub dX4_looksAt_212 ?_
              refine s_last' (j := k) dX4_looksAt_213 (Or.inr (Or.inl (hW29.rr 17 (by decide)).2.1)) rfl (by rw [(hW29.rr 17 (by decide)).2.2]; exact hk) (by rw [(hW29.rr 17 (by decide)).2.2]; decide) ?_
              have hW30 := hW29.paj (f := 17) (by decide) (k := k) (v := ((((c.aj 17 k) + (((c.aj 17 k) * 500) / 10000)) + (f_X4_flow (c.paj 17 k ((c.aj 17 k) + (((c.aj 17 k) * 500) / 10000))) k (c.ti 1))) - (((c.aj 17 k) + (((c.aj 17 k) * 500) / 10000)) + (f_X4_flow (c.paj 17 k ((c.aj 17 k) + (((c.aj 17 k) * 500) / 10000))) k (c.ti 1)))) - (c.tj 2))
              have hF30 := hF29.uJ (a := (w.ar 17)) (k := k) (v := ((((c.aj 17 k) + (((c.aj 17 k) * 500) / 10000)) + (f_X4_flow (c.paj 17 k ((c.aj 17 k) + (((c.aj 17 k) * 500) / 10000))) k (c.ti 1))) - (((c.aj 17 k) + (((c.aj 17 k) * 500) / 10000)) + (f_X4_flow (c.paj 17 k ((c.aj 17 k) + (((c.aj 17 k) * 500) / 10000))) k (c.ti 1)))) - (c.tj 2)) (kd := 10) ((hW29.rr 17 (by decide)).2.1) (by decide)
              refine s_lload dX4_looksAt_214 rfl ?_
              refine s_lload dX4_looksAt_216 rfl ?_
              refine s_ladd dX4_looksAt_218 ?_
              refine s_lstoren dX4_looksAt_219 rfl (by decide) ?_
              refine s_aloadn dX4_looksAt_220 rfl rfl ?_
              refine s_getR (n := 80) dX4_looksAt_221 rfl hW30.mm (fun _ _ _ => rfl) (hW30.rr 19 (by decide)).1 ?_
              refine s_iloadn dX4_looksAt_224 rfl rfl ?_
              refine s_dup2 dX4_looksAt_225 rfl rfl ?_
              refine s_lald' (j := k) dX4_looksAt_226 (Or.inr (Or.inl (hW30.rr 19 (by decide)).2.1)) rfl (by rw [(hW30.rr 19 (by decide)).2.2]; exact hk) (by rw [(hW30.rr 19 (by decide)).2.2]; decide) ?_
              rw [hW30.aj 19 (by decide)]
              rw [show (((((((c.paj 17 k ((c.aj 17 k) + (((c.aj 17 k) * 500) / 10000))).paj 17 k (((c.aj 17 k) + (((c.aj 17 k) * 500) / 10000)) + (f_X4_flow (c.paj 17 k ((c.aj 17 k) + (((c.aj 17 k) * 500) / 10000))) k (c.ti 1)))).paj 10 k (c.aj 10 k)).paj 18 k ((c.aj 18 k) - (((c.aj 17 k) + (((c.aj 17 k) * 500) / 10000)) + (f_X4_flow (c.paj 17 k ((c.aj 17 k) + (((c.aj 17 k) * 500) / 10000))) k (c.ti 1))))).paj 17 k ((((c.aj 17 k) + (((c.aj 17 k) * 500) / 10000)) + (f_X4_flow (c.paj 17 k ((c.aj 17 k) + (((c.aj 17 k) * 500) / 10000))) k (c.ti 1))) - (((c.aj 17 k) + (((c.aj 17 k) * 500) / 10000)) + (f_X4_flow (c.paj 17 k ((c.aj 17 k) + (((c.aj 17 k) * 500) / 10000))) k (c.ti 1))))).ptj 2 ((c.tj 2) - (c.tj 2))).paj 17 k (((((c.aj 17 k) + (((c.aj 17 k) * 500) / 10000)) + (f_X4_flow (c.paj 17 k ((c.aj 17 k) + (((c.aj 17 k) * 500) / 10000))) k (c.ti 1))) - (((c.aj 17 k) + (((c.aj 17 k) * 500) / 10000)) + (f_X4_flow (c.paj 17 k ((c.aj 17 k) + (((c.aj 17 k) * 500) / 10000))) k (c.ti 1)))) - (c.tj 2))).aj 19 k = (c.aj 19 k) from (rfl)]
              refine s_lloadn dX4_looksAt_227 rfl rfl ?_
              refine s_ladd dX4_looksAt_228 ?_
              refine s_last' (j := k) dX4_looksAt_229 (Or.inr (Or.inl (hW30.rr 19 (by decide)).2.1)) rfl (by rw [(hW30.rr 19 (by decide)).2.2]; exact hk) (by rw [(hW30.rr 19 (by decide)).2.2]; decide) ?_
              have hW31 := hW30.paj (f := 19) (by decide) (k := k) (v := (c.aj 19 k) + ((((c.aj 17 k) + (((c.aj 17 k) * 500) / 10000)) + (f_X4_flow (c.paj 17 k ((c.aj 17 k) + (((c.aj 17 k) * 500) / 10000))) k (c.ti 1))) + (c.tj 2)))
              have hF31 := hF30.uJ (a := (w.ar 19)) (k := k) (v := (c.aj 19 k) + ((((c.aj 17 k) + (((c.aj 17 k) * 500) / 10000)) + (f_X4_flow (c.paj 17 k ((c.aj 17 k) + (((c.aj 17 k) * 500) / 10000))) k (c.ti 1))) + (c.tj 2))) (kd := 10) ((hW30.rr 19 (by decide)).2.1) (by decide)
              refine s_aloadn dX4_looksAt_230 rfl rfl ?_
              refine s_getR (n := 73) dX4_looksAt_231 rfl hW31.mm (fun _ _ _ => rfl) (hW31.rr 12 (by decide)).1 ?_
              refine s_iloadn dX4_looksAt_234 rfl rfl ?_
              refine s_iald' (j := k) dX4_looksAt_235 ((hW31.rr 12 (by decide)).2.1) rfl (by rw [(hW31.rr 12 (by decide)).2.2]; exact hk) (by rw [(hW31.rr 12 (by decide)).2.2]; decide) ?_
              rw [hW31.ai 12 (by decide)]
              refine s_aloadn dX4_looksAt_236 rfl rfl ?_
              refine s_get (v := .int (c.ti 1)) (n := 62) dX4_looksAt_237 rfl hW31.mm (congrArg Value.int (congrFun hW31.ti 1)) ?_
              refine s_icgt (tgt := 259) dX4_looksAt_240 (by decide) (fun c_240 => ?_) (fun c_240 => ?_)
              · skip
                refine s_lloadn dX4_looksAt_259 rfl rfl ?_
                exact s_retl dX4_looksAt_260 rfl (NJ.of (F := f_X4_looksAt c k) (x := (((c.aj 17 k) + (((c.aj 17 k) * 500) / 10000)) + (f_X4_flow (c.paj 17 k ((c.aj 17 k) + (((c.aj 17 k) * 500) / 10000))) k (c.ti 1))) + (c.tj 2)) (by unfold f_X4_looksAt; rw [if_neg c_8, if_neg c_67, if_neg c_93, if_pos c_147, if_pos c_155, if_pos c_173, if_pos c_240]) hW31 hF31)
              · skip
                refine s_aloadn dX4_looksAt_243 rfl rfl ?_
                refine s_getR (n := 78) dX4_looksAt_244 rfl hW31.mm (fun _ _ _ => rfl) (hW31.rr 17 (by decide)).1 ?_
                refine s_iloadn dX4_looksAt_247 rfl rfl ?_
                refine s_lald' (j := k) dX4_looksAt_248 (Or.inr (Or.inl (hW31.rr 17 (by decide)).2.1)) rfl (by rw [(hW31.rr 17 (by decide)).2.2]; exact hk) (by rw [(hW31.rr 17 (by decide)).2.2]; decide) ?_
                rw [hW31.aj 17 (by decide)]
                rw [show ((((((((c.paj 17 k ((c.aj 17 k) + (((c.aj 17 k) * 500) / 10000))).paj 17 k (((c.aj 17 k) + (((c.aj 17 k) * 500) / 10000)) + (f_X4_flow (c.paj 17 k ((c.aj 17 k) + (((c.aj 17 k) * 500) / 10000))) k (c.ti 1)))).paj 10 k (c.aj 10 k)).paj 18 k ((c.aj 18 k) - (((c.aj 17 k) + (((c.aj 17 k) * 500) / 10000)) + (f_X4_flow (c.paj 17 k ((c.aj 17 k) + (((c.aj 17 k) * 500) / 10000))) k (c.ti 1))))).paj 17 k ((((c.aj 17 k) + (((c.aj 17 k) * 500) / 10000)) + (f_X4_flow (c.paj 17 k ((c.aj 17 k) + (((c.aj 17 k) * 500) / 10000))) k (c.ti 1))) - (((c.aj 17 k) + (((c.aj 17 k) * 500) / 10000)) + (f_X4_flow (c.paj 17 k ((c.aj 17 k) + (((c.aj 17 k) * 500) / 10000))) k (c.ti 1))))).ptj 2 ((c.tj 2) - (c.tj 2))).paj 17 k (((((c.aj 17 k) + (((c.aj 17 k) * 500) / 10000)) + (f_X4_flow (c.paj 17 k ((c.aj 17 k) + (((c.aj 17 k) * 500) / 10000))) k (c.ti 1))) - (((c.aj 17 k) + (((c.aj 17 k) * 500) / 10000)) + (f_X4_flow (c.paj 17 k ((c.aj 17 k) + (((c.aj 17 k) * 500) / 10000))) k (c.ti 1)))) - (c.tj 2))).paj 19 k ((c.aj 19 k) + ((((c.aj 17 k) + (((c.aj 17 k) * 500) / 10000)) + (f_X4_flow (c.paj 17 k ((c.aj 17 k) + (((c.aj 17 k) * 500) / 10000))) k (c.ti 1))) + (c.tj 2)))).aj 17 k = ((((c.aj 17 k) + (((c.aj 17 k) * 500) / 10000)) + (f_X4_flow (c.paj 17 k ((c.aj 17 k) + (((c.aj 17 k) * 500) / 10000))) k (c.ti 1))) - (((c.aj 17 k) + (((c.aj 17 k) * 500) / 10000)) + (f_X4_flow (c.paj 17 k ((c.aj 17 k) + (((c.aj 17 k) * 500) / 10000))) k (c.ti 1)))) - (c.tj 2) from (by show up2 _ 17 k _ 17 k = _; exact up2_self)]
                refine s_lconst (v := 0) dX4_looksAt_249 (by decide) ?_
                refine s_lcne (tgt := 259) dX4_looksAt_250 dX4_looksAt_251 (by decide) (fun c_250 => ?_) (fun c_250 => ?_)
                · skip
                  refine s_lloadn dX4_looksAt_259 rfl rfl ?_
                  exact s_retl dX4_looksAt_260 rfl (NJ.of (F := f_X4_looksAt c k) (x := (((c.aj 17 k) + (((c.aj 17 k) * 500) / 10000)) + (f_X4_flow (c.paj 17 k ((c.aj 17 k) + (((c.aj 17 k) * 500) / 10000))) k (c.ti 1))) + (c.tj 2)) (by unfold f_X4_looksAt; rw [if_neg c_8, if_neg c_67, if_neg c_93, if_pos c_147, if_pos c_155, if_pos c_173, if_neg c_240, if_neg c_250]) hW31 hF31)
                · skip
                  refine s_aloadn dX4_looksAt_254 rfl rfl ?_
                  refine s_iloadn dX4_looksAt_255 rfl rfl ?_
                  refine s_cv1G (n := 55) dX4_looksAt_256 rfl (kv hW31.mm (by decide) rfl) rfl (by decide) (by decide) (by decide) (by decide) (Nat.le_of_ble_eq_true rfl) (m_X4_ends hW31 hk) (fun r32 S32 hr32 => ?_) (fun x S2 hr => by obtain ⟨e, -⟩ := hr; cases e)
                  obtain ⟨e32, hW32, hG32⟩ := hr32
                  cases e32
                  have hF32 := hF31.tr hG32
                  refine s_lloadn dX4_looksAt_259 rfl rfl ?_
                  exact s_retl dX4_looksAt_260 rfl (NJ.of (F := f_X4_looksAt c k) (x := (((c.aj 17 k) + (((c.aj 17 k) * 500) / 10000)) + (f_X4_flow (c.paj 17 k ((c.aj 17 k) + (((c.aj 17 k) * 500) / 10000))) k (c.ti 1))) + (c.tj 2)) (by unfold f_X4_looksAt; rw [if_neg c_8, if_neg c_67, if_neg c_93, if_pos c_147, if_pos c_155, if_pos c_173, if_neg c_240, if_pos c_250]) hW32 hF32)
            · skip
              refine s_aloadn dX4_looksAt_177 rfl rfl ?_
              refine s_getR (n := 78) dX4_looksAt_178 rfl hW24.mm (fun _ _ _ => rfl) (hW24.rr 17 (by decide)).1 ?_
              refine s_iloadn dX4_looksAt_181 rfl rfl ?_
              refine s_lald' (j := k) dX4_looksAt_182 (Or.inr (Or.inl (hW24.rr 17 (by decide)).2.1)) rfl (by rw [(hW24.rr 17 (by decide)).2.2]; exact hk) (by rw [(hW24.rr 17 (by decide)).2.2]; decide) ?_
              rw [hW24.aj 17 (by decide)]
              rw [show (((((c.paj 17 k ((c.aj 17 k) + (((c.aj 17 k) * 500) / 10000))).paj 17 k (((c.aj 17 k) + (((c.aj 17 k) * 500) / 10000)) + (f_X4_flow (c.paj 17 k ((c.aj 17 k) + (((c.aj 17 k) * 500) / 10000))) k (c.ti 1)))).paj 10 k (c.aj 10 k)).paj 18 k ((c.aj 18 k) - (((c.aj 17 k) + (((c.aj 17 k) * 500) / 10000)) + (f_X4_flow (c.paj 17 k ((c.aj 17 k) + (((c.aj 17 k) * 500) / 10000))) k (c.ti 1))))).paj 17 k ((((c.aj 17 k) + (((c.aj 17 k) * 500) / 10000)) + (f_X4_flow (c.paj 17 k ((c.aj 17 k) + (((c.aj 17 k) * 500) / 10000))) k (c.ti 1))) - (((c.aj 17 k) + (((c.aj 17 k) * 500) / 10000)) + (f_X4_flow (c.paj 17 k ((c.aj 17 k) + (((c.aj 17 k) * 500) / 10000))) k (c.ti 1))))).aj 17 k = (((c.aj 17 k) + (((c.aj 17 k) * 500) / 10000)) + (f_X4_flow (c.paj 17 k ((c.aj 17 k) + (((c.aj 17 k) * 500) / 10000))) k (c.ti 1))) - (((c.aj 17 k) + (((c.aj 17 k) * 500) / 10000)) + (f_X4_flow (c.paj 17 k ((c.aj 17 k) + (((c.aj 17 k) * 500) / 10000))) k (c.ti 1))) from (by show up2 _ 17 k _ 17 k = _; exact up2_self)]
              refine s_goto (tgt := 190) dX4_looksAt_183 (by decide) ?_
              refine s_lstore dX4_looksAt_190 (by decide) ?_
              refine s_aloadn dX4_looksAt_192 rfl rfl ?_
              refine s_dup dX4_looksAt_193 rfl ?_
              refine s_get (v := .long (c.tj 2)) (n := 63) dX4_looksAt_194 rfl hW24.mm (congrArg Value.long (congrFun hW24.tj 2)) ?_
              refine s_lload dX4_looksAt_197 rfl ?_
              refine s_lsub dX4_looksAt_199 ?_
              refine s_putJ (n := 63) dX4_looksAt_200 rfl hW24.mm (Or.inl rfl) (fun _ _ _ => rfl) rfl rfl ?_
              have hW33 := hW24.ptj (k := 2) (v := (c.tj 2) - ((((c.aj 17 k) + (((c.aj 17 k) * 500) / 10000)) + (f_X4_flow (c.paj 17 k ((c.aj 17 k) + (((c.aj 17 k) * 500) / 10000))) k (c.ti 1))) - (((c.aj 17 k) + (((c.aj 17 k) * 500) / 10000)) + (f_X4_flow (c.paj 17 k ((c.aj 17 k) + (((c.aj 17 k) * 500) / 10000))) k (c.ti 1)))))
              have hF33 := hF24.uJ (a := w.mm) (k := 2) (v := (c.tj 2) - ((((c.aj 17 k) + (((c.aj 17 k) * 500) / 10000)) + (f_X4_flow (c.paj 17 k ((c.aj 17 k) + (((c.aj 17 k) * 500) / 10000))) k (c.ti 1))) - (((c.aj 17 k) + (((c.aj 17 k) * 500) / 10000)) + (f_X4_flow (c.paj 17 k ((c.aj 17 k) + (((c.aj 17 k) * 500) / 10000))) k (c.ti 1))))) (kd := 5) hW24.mm (by decide)
              refine s_aloadn dX4_looksAt_203 rfl rfl ?_
              refine s_getR (n := 78) dX4_looksAt_204 rfl hW33.mm (fun _ _ _ => rfl) (hW33.rr 17 (by decide)).1 ?_
              refine s_iloadn dX4_looksAt_207 rfl rfl ?_
              refine s_dup2 dX4_looksAt_208 rfl rfl ?_
              refine s_lald' (j := k) dX4_looksAt_209 (Or.inr (Or.inl (hW33.rr 17 (by decide)).2.1)) rfl (by rw [(hW33.rr 17 (by decide)).2.2]; exact hk) (by rw [(hW33.rr 17 (by decide)).2.2]; decide) ?_
              rw [hW33.aj 17 (by decide)]
              rw [show ((((((c.paj 17 k ((c.aj 17 k) + (((c.aj 17 k) * 500) / 10000))).paj 17 k (((c.aj 17 k) + (((c.aj 17 k) * 500) / 10000)) + (f_X4_flow (c.paj 17 k ((c.aj 17 k) + (((c.aj 17 k) * 500) / 10000))) k (c.ti 1)))).paj 10 k (c.aj 10 k)).paj 18 k ((c.aj 18 k) - (((c.aj 17 k) + (((c.aj 17 k) * 500) / 10000)) + (f_X4_flow (c.paj 17 k ((c.aj 17 k) + (((c.aj 17 k) * 500) / 10000))) k (c.ti 1))))).paj 17 k ((((c.aj 17 k) + (((c.aj 17 k) * 500) / 10000)) + (f_X4_flow (c.paj 17 k ((c.aj 17 k) + (((c.aj 17 k) * 500) / 10000))) k (c.ti 1))) - (((c.aj 17 k) + (((c.aj 17 k) * 500) / 10000)) + (f_X4_flow (c.paj 17 k ((c.aj 17 k) + (((c.aj 17 k) * 500) / 10000))) k (c.ti 1))))).ptj 2 ((c.tj 2) - ((((c.aj 17 k) + (((c.aj 17 k) * 500) / 10000)) + (f_X4_flow (c.paj 17 k ((c.aj 17 k) + (((c.aj 17 k) * 500) / 10000))) k (c.ti 1))) - (((c.aj 17 k) + (((c.aj 17 k) * 500) / 10000)) + (f_X4_flow (c.paj 17 k ((c.aj 17 k) + (((c.aj 17 k) * 500) / 10000))) k (c.ti 1)))))).aj 17 k = (((c.aj 17 k) + (((c.aj 17 k) * 500) / 10000)) + (f_X4_flow (c.paj 17 k ((c.aj 17 k) + (((c.aj 17 k) * 500) / 10000))) k (c.ti 1))) - (((c.aj 17 k) + (((c.aj 17 k) * 500) / 10000)) + (f_X4_flow (c.paj 17 k ((c.aj 17 k) + (((c.aj 17 k) * 500) / 10000))) k (c.ti 1))) from (by show up2 _ 17 k _ 17 k = _; exact up2_self)]
              refine s_lload dX4_looksAt_210 rfl ?_
              refine s_lsub dX4_looksAt_212 ?_
              refine s_last' (j := k) dX4_looksAt_213 (Or.inr (Or.inl (hW33.rr 17 (by decide)).2.1)) rfl (by rw [(hW33.rr 17 (by decide)).2.2]; exact hk) (by rw [(hW33.rr 17 (by decide)).2.2]; decide) ?_
              have hW34 := hW33.paj (f := 17) (by decide) (k := k) (v := ((((c.aj 17 k) + (((c.aj 17 k) * 500) / 10000)) + (f_X4_flow (c.paj 17 k ((c.aj 17 k) + (((c.aj 17 k) * 500) / 10000))) k (c.ti 1))) - (((c.aj 17 k) + (((c.aj 17 k) * 500) / 10000)) + (f_X4_flow (c.paj 17 k ((c.aj 17 k) + (((c.aj 17 k) * 500) / 10000))) k (c.ti 1)))) - ((((c.aj 17 k) + (((c.aj 17 k) * 500) / 10000)) + (f_X4_flow (c.paj 17 k ((c.aj 17 k) + (((c.aj 17 k) * 500) / 10000))) k (c.ti 1))) - (((c.aj 17 k) + (((c.aj 17 k) * 500) / 10000)) + (f_X4_flow (c.paj 17 k ((c.aj 17 k) + (((c.aj 17 k) * 500) / 10000))) k (c.ti 1)))))
              have hF34 := hF33.uJ (a := (w.ar 17)) (k := k) (v := ((((c.aj 17 k) + (((c.aj 17 k) * 500) / 10000)) + (f_X4_flow (c.paj 17 k ((c.aj 17 k) + (((c.aj 17 k) * 500) / 10000))) k (c.ti 1))) - (((c.aj 17 k) + (((c.aj 17 k) * 500) / 10000)) + (f_X4_flow (c.paj 17 k ((c.aj 17 k) + (((c.aj 17 k) * 500) / 10000))) k (c.ti 1)))) - ((((c.aj 17 k) + (((c.aj 17 k) * 500) / 10000)) + (f_X4_flow (c.paj 17 k ((c.aj 17 k) + (((c.aj 17 k) * 500) / 10000))) k (c.ti 1))) - (((c.aj 17 k) + (((c.aj 17 k) * 500) / 10000)) + (f_X4_flow (c.paj 17 k ((c.aj 17 k) + (((c.aj 17 k) * 500) / 10000))) k (c.ti 1))))) (kd := 10) ((hW33.rr 17 (by decide)).2.1) (by decide)
              refine s_lload dX4_looksAt_214 rfl ?_
              refine s_lload dX4_looksAt_216 rfl ?_
              refine s_ladd dX4_looksAt_218 ?_
              refine s_lstoren dX4_looksAt_219 rfl (by decide) ?_
              refine s_aloadn dX4_looksAt_220 rfl rfl ?_
              refine s_getR (n := 80) dX4_looksAt_221 rfl hW34.mm (fun _ _ _ => rfl) (hW34.rr 19 (by decide)).1 ?_
              refine s_iloadn dX4_looksAt_224 rfl rfl ?_
              refine s_dup2 dX4_looksAt_225 rfl rfl ?_
              refine s_lald' (j := k) dX4_looksAt_226 (Or.inr (Or.inl (hW34.rr 19 (by decide)).2.1)) rfl (by rw [(hW34.rr 19 (by decide)).2.2]; exact hk) (by rw [(hW34.rr 19 (by decide)).2.2]; decide) ?_
              rw [hW34.aj 19 (by decide)]
              rw [show (((((((c.paj 17 k ((c.aj 17 k) + (((c.aj 17 k) * 500) / 10000))).paj 17 k (((c.aj 17 k) + (((c.aj 17 k) * 500) / 10000)) + (f_X4_flow (c.paj 17 k ((c.aj 17 k) + (((c.aj 17 k) * 500) / 10000))) k (c.ti 1)))).paj 10 k (c.aj 10 k)).paj 18 k ((c.aj 18 k) - (((c.aj 17 k) + (((c.aj 17 k) * 500) / 10000)) + (f_X4_flow (c.paj 17 k ((c.aj 17 k) + (((c.aj 17 k) * 500) / 10000))) k (c.ti 1))))).paj 17 k ((((c.aj 17 k) + (((c.aj 17 k) * 500) / 10000)) + (f_X4_flow (c.paj 17 k ((c.aj 17 k) + (((c.aj 17 k) * 500) / 10000))) k (c.ti 1))) - (((c.aj 17 k) + (((c.aj 17 k) * 500) / 10000)) + (f_X4_flow (c.paj 17 k ((c.aj 17 k) + (((c.aj 17 k) * 500) / 10000))) k (c.ti 1))))).ptj 2 ((c.tj 2) - ((((c.aj 17 k) + (((c.aj 17 k) * 500) / 10000)) + (f_X4_flow (c.paj 17 k ((c.aj 17 k) + (((c.aj 17 k) * 500) / 10000))) k (c.ti 1))) - (((c.aj 17 k) + (((c.aj 17 k) * 500) / 10000)) + (f_X4_flow (c.paj 17 k ((c.aj 17 k) + (((c.aj 17 k) * 500) / 10000))) k (c.ti 1)))))).paj 17 k (((((c.aj 17 k) + (((c.aj 17 k) * 500) / 10000)) + (f_X4_flow (c.paj 17 k ((c.aj 17 k) + (((c.aj 17 k) * 500) / 10000))) k (c.ti 1))) - (((c.aj 17 k) + (((c.aj 17 k) * 500) / 10000)) + (f_X4_flow (c.paj 17 k ((c.aj 17 k) + (((c.aj 17 k) * 500) / 10000))) k (c.ti 1)))) - ((((c.aj 17 k) + (((c.aj 17 k) * 500) / 10000)) + (f_X4_flow (c.paj 17 k ((c.aj 17 k) + (((c.aj 17 k) * 500) / 10000))) k (c.ti 1))) - (((c.aj 17 k) + (((c.aj 17 k) * 500) / 10000)) + (f_X4_flow (c.paj 17 k ((c.aj 17 k) + (((c.aj 17 k) * 500) / 10000))) k (c.ti 1)))))).aj 19 k = (c.aj 19 k) from (rfl)]
              refine s_lloadn dX4_looksAt_227 rfl rfl ?_
              refine s_ladd dX4_looksAt_228 ?_
              refine s_last' (j := k) dX4_looksAt_229 (Or.inr (Or.inl (hW34.rr 19 (by decide)).2.1)) rfl (by rw [(hW34.rr 19 (by decide)).2.2]; exact hk) (by rw [(hW34.rr 19 (by decide)).2.2]; decide) ?_
              have hW35 := hW34.paj (f := 19) (by decide) (k := k) (v := (c.aj 19 k) + ((((c.aj 17 k) + (((c.aj 17 k) * 500) / 10000)) + (f_X4_flow (c.paj 17 k ((c.aj 17 k) + (((c.aj 17 k) * 500) / 10000))) k (c.ti 1))) + ((((c.aj 17 k) + (((c.aj 17 k) * 500) / 10000)) + (f_X4_flow (c.paj 17 k ((c.aj 17 k) + (((c.aj 17 k) * 500) / 10000))) k (c.ti 1))) - (((c.aj 17 k) + (((c.aj 17 k) * 500) / 10000)) + (f_X4_flow (c.paj 17 k ((c.aj 17 k) + (((c.aj 17 k) * 500) / 10000))) k (c.ti 1))))))
              have hF35 := hF34.uJ (a := (w.ar 19)) (k := k) (v := (c.aj 19 k) + ((((c.aj 17 k) + (((c.aj 17 k) * 500) / 10000)) + (f_X4_flow (c.paj 17 k ((c.aj 17 k) + (((c.aj 17 k) * 500) / 10000))) k (c.ti 1))) + ((((c.aj 17 k) + (((c.aj 17 k) * 500) / 10000)) + (f_X4_flow (c.paj 17 k ((c.aj 17 k) + (((c.aj 17 k) * 500) / 10000))) k (c.ti 1))) - (((c.aj 17 k) + (((c.aj 17 k) * 500) / 10000)) + (f_X4_flow (c.paj 17 k ((c.aj 17 k) + (((c.aj 17 k) * 500) / 10000))) k (c.ti 1)))))) (kd := 10) ((hW34.rr 19 (by decide)).2.1) (by decide)
              refine s_aloadn dX4_looksAt_230 rfl rfl ?_
              refine s_getR (n := 73) dX4_looksAt_231 rfl hW35.mm (fun _ _ _ => rfl) (hW35.rr 12 (by decide)).1 ?_
              refine s_iloadn dX4_looksAt_234 rfl rfl ?_
              refine s_iald' (j := k) dX4_looksAt_235 ((hW35.rr 12 (by decide)).2.1) rfl (by rw [(hW35.rr 12 (by decide)).2.2]; exact hk) (by rw [(hW35.rr 12 (by decide)).2.2]; decide) ?_
              rw [hW35.ai 12 (by decide)]
              refine s_aloadn dX4_looksAt_236 rfl rfl ?_
              refine s_get (v := .int (c.ti 1)) (n := 62) dX4_looksAt_237 rfl hW35.mm (congrArg Value.int (congrFun hW35.ti 1)) ?_
              refine s_icgt (tgt := 259) dX4_looksAt_240 (by decide) (fun c_240 => ?_) (fun c_240 => ?_)
              · skip
                refine s_lloadn dX4_looksAt_259 rfl rfl ?_
                exact s_retl dX4_looksAt_260 rfl (NJ.of (F := f_X4_looksAt c k) (x := (((c.aj 17 k) + (((c.aj 17 k) * 500) / 10000)) + (f_X4_flow (c.paj 17 k ((c.aj 17 k) + (((c.aj 17 k) * 500) / 10000))) k (c.ti 1))) + ((((c.aj 17 k) + (((c.aj 17 k) * 500) / 10000)) + (f_X4_flow (c.paj 17 k ((c.aj 17 k) + (((c.aj 17 k) * 500) / 10000))) k (c.ti 1))) - (((c.aj 17 k) + (((c.aj 17 k) * 500) / 10000)) + (f_X4_flow (c.paj 17 k ((c.aj 17 k) + (((c.aj 17 k) * 500) / 10000))) k (c.ti 1))))) (by unfold f_X4_looksAt; rw [if_neg c_8, if_neg c_67, if_neg c_93, if_pos c_147, if_pos c_155, if_neg c_173, if_pos c_240]) hW35 hF35)
              · skip
                refine s_aloadn dX4_looksAt_243 rfl rfl ?_
                refine s_getR (n := 78) dX4_looksAt_244 rfl hW35.mm (fun _ _ _ => rfl) (hW35.rr 17 (by decide)).1 ?_
                refine s_iloadn dX4_looksAt_247 rfl rfl ?_
                refine s_lald' (j := k) dX4_looksAt_248 (Or.inr (Or.inl (hW35.rr 17 (by decide)).2.1)) rfl (by rw [(hW35.rr 17 (by decide)).2.2]; exact hk) (by rw [(hW35.rr 17 (by decide)).2.2]; decide) ?_
                rw [hW35.aj 17 (by decide)]
                rw [show ((((((((c.paj 17 k ((c.aj 17 k) + (((c.aj 17 k) * 500) / 10000))).paj 17 k (((c.aj 17 k) + (((c.aj 17 k) * 500) / 10000)) + (f_X4_flow (c.paj 17 k ((c.aj 17 k) + (((c.aj 17 k) * 500) / 10000))) k (c.ti 1)))).paj 10 k (c.aj 10 k)).paj 18 k ((c.aj 18 k) - (((c.aj 17 k) + (((c.aj 17 k) * 500) / 10000)) + (f_X4_flow (c.paj 17 k ((c.aj 17 k) + (((c.aj 17 k) * 500) / 10000))) k (c.ti 1))))).paj 17 k ((((c.aj 17 k) + (((c.aj 17 k) * 500) / 10000)) + (f_X4_flow (c.paj 17 k ((c.aj 17 k) + (((c.aj 17 k) * 500) / 10000))) k (c.ti 1))) - (((c.aj 17 k) + (((c.aj 17 k) * 500) / 10000)) + (f_X4_flow (c.paj 17 k ((c.aj 17 k) + (((c.aj 17 k) * 500) / 10000))) k (c.ti 1))))).ptj 2 ((c.tj 2) - ((((c.aj 17 k) + (((c.aj 17 k) * 500) / 10000)) + (f_X4_flow (c.paj 17 k ((c.aj 17 k) + (((c.aj 17 k) * 500) / 10000))) k (c.ti 1))) - (((c.aj 17 k) + (((c.aj 17 k) * 500) / 10000)) + (f_X4_flow (c.paj 17 k ((c.aj 17 k) + (((c.aj 17 k) * 500) / 10000))) k (c.ti 1)))))).paj 17 k (((((c.aj 17 k) + (((c.aj 17 k) * 500) / 10000)) + (f_X4_flow (c.paj 17 k ((c.aj 17 k) + (((c.aj 17 k) * 500) / 10000))) k (c.ti 1))) - (((c.aj 17 k) + (((c.aj 17 k) * 500) / 10000)) + (f_X4_flow (c.paj 17 k ((c.aj 17 k) + (((c.aj 17 k) * 500) / 10000))) k (c.ti 1)))) - ((((c.aj 17 k) + (((c.aj 17 k) * 500) / 10000)) + (f_X4_flow (c.paj 17 k ((c.aj 17 k) + (((c.aj 17 k) * 500) / 10000))) k (c.ti 1))) - (((c.aj 17 k) + (((c.aj 17 k) * 500) / 10000)) + (f_X4_flow (c.paj 17 k ((c.aj 17 k) + (((c.aj 17 k) * 500) / 10000))) k (c.ti 1)))))).paj 19 k ((c.aj 19 k) + ((((c.aj 17 k) + (((c.aj 17 k) * 500) / 10000)) + (f_X4_flow (c.paj 17 k ((c.aj 17 k) + (((c.aj 17 k) * 500) / 10000))) k (c.ti 1))) + ((((c.aj 17 k) + (((c.aj 17 k) * 500) / 10000)) + (f_X4_flow (c.paj 17 k ((c.aj 17 k) + (((c.aj 17 k) * 500) / 10000))) k (c.ti 1))) - (((c.aj 17 k) + (((c.aj 17 k) * 500) / 10000)) + (f_X4_flow (c.paj 17 k ((c.aj 17 k) + (((c.aj 17 k) * 500) / 10000))) k (c.ti 1))))))).aj 17 k = ((((c.aj 17 k) + (((c.aj 17 k) * 500) / 10000)) + (f_X4_flow (c.paj 17 k ((c.aj 17 k) + (((c.aj 17 k) * 500) / 10000))) k (c.ti 1))) - (((c.aj 17 k) + (((c.aj 17 k) * 500) / 10000)) + (f_X4_flow (c.paj 17 k ((c.aj 17 k) + (((c.aj 17 k) * 500) / 10000))) k (c.ti 1)))) - ((((c.aj 17 k) + (((c.aj 17 k) * 500) / 10000)) + (f_X4_flow (c.paj 17 k ((c.aj 17 k) + (((c.aj 17 k) * 500) / 10000))) k (c.ti 1))) - (((c.aj 17 k) + (((c.aj 17 k) * 500) / 10000)) + (f_X4_flow (c.paj 17 k ((c.aj 17 k) + (((c.aj 17 k) * 500) / 10000))) k (c.ti 1)))) from (by show up2 _ 17 k _ 17 k = _; exact up2_self)]
                refine s_lconst (v := 0) dX4_looksAt_249 (by decide) ?_
                refine s_lcne (tgt := 259) dX4_looksAt_250 dX4_looksAt_251 (by decide) (fun c_250 => ?_) (fun c_250 => ?_)
                · skip
                  refine s_lloadn dX4_looksAt_259 rfl rfl ?_
                  exact s_retl dX4_looksAt_260 rfl (NJ.of (F := f_X4_looksAt c k) (x := (((c.aj 17 k) + (((c.aj 17 k) * 500) / 10000)) + (f_X4_flow (c.paj 17 k ((c.aj 17 k) + (((c.aj 17 k) * 500) / 10000))) k (c.ti 1))) + ((((c.aj 17 k) + (((c.aj 17 k) * 500) / 10000)) + (f_X4_flow (c.paj 17 k ((c.aj 17 k) + (((c.aj 17 k) * 500) / 10000))) k (c.ti 1))) - (((c.aj 17 k) + (((c.aj 17 k) * 500) / 10000)) + (f_X4_flow (c.paj 17 k ((c.aj 17 k) + (((c.aj 17 k) * 500) / 10000))) k (c.ti 1))))) (by unfold f_X4_looksAt; rw [if_neg c_8, if_neg c_67, if_neg c_93, if_pos c_147, if_pos c_155, if_neg c_173, if_neg c_240, if_neg c_250]) hW35 hF35)
                · skip
                  refine s_aloadn dX4_looksAt_254 rfl rfl ?_
                  refine s_iloadn dX4_looksAt_255 rfl rfl ?_
                  refine s_cv1G (n := 55) dX4_looksAt_256 rfl (kv hW35.mm (by decide) rfl) rfl (by decide) (by decide) (by decide) (by decide) (Nat.le_of_ble_eq_true rfl) (m_X4_ends hW35 hk) (fun r36 S36 hr36 => ?_) (fun x S2 hr => by obtain ⟨e, -⟩ := hr; cases e)
                  obtain ⟨e36, hW36, hG36⟩ := hr36
                  cases e36
                  have hF36 := hF35.tr hG36
                  refine s_lloadn dX4_looksAt_259 rfl rfl ?_
                  exact s_retl dX4_looksAt_260 rfl (NJ.of (F := f_X4_looksAt c k) (x := (((c.aj 17 k) + (((c.aj 17 k) * 500) / 10000)) + (f_X4_flow (c.paj 17 k ((c.aj 17 k) + (((c.aj 17 k) * 500) / 10000))) k (c.ti 1))) + ((((c.aj 17 k) + (((c.aj 17 k) * 500) / 10000)) + (f_X4_flow (c.paj 17 k ((c.aj 17 k) + (((c.aj 17 k) * 500) / 10000))) k (c.ti 1))) - (((c.aj 17 k) + (((c.aj 17 k) * 500) / 10000)) + (f_X4_flow (c.paj 17 k ((c.aj 17 k) + (((c.aj 17 k) * 500) / 10000))) k (c.ti 1))))) (by unfold f_X4_looksAt; rw [if_neg c_8, if_neg c_67, if_neg c_93, if_pos c_147, if_pos c_155, if_neg c_173, if_neg c_240, if_pos c_250]) hW36 hF36)
          · skip
            refine s_lconst (v := 0) dX4_looksAt_159 (by decide) ?_
            refine s_goto (tgt := 190) dX4_looksAt_160 (by decide) ?_
            refine s_lstore dX4_looksAt_190 (by decide) ?_
            refine s_aloadn dX4_looksAt_192 rfl rfl ?_
            refine s_dup dX4_looksAt_193 rfl ?_
            refine s_get (v := .long (c.tj 2)) (n := 63) dX4_looksAt_194 rfl hW24.mm (congrArg Value.long (congrFun hW24.tj 2)) ?_
            refine s_lload dX4_looksAt_197 rfl ?_
            refine s_lsub dX4_looksAt_199 ?_
            refine s_putJ (n := 63) dX4_looksAt_200 rfl hW24.mm (Or.inl rfl) (fun _ _ _ => rfl) rfl rfl ?_
            have hW37 := hW24.ptj (k := 2) (v := (c.tj 2) - 0)
            have hF37 := hF24.uJ (a := w.mm) (k := 2) (v := (c.tj 2) - 0) (kd := 5) hW24.mm (by decide)
            refine s_aloadn dX4_looksAt_203 rfl rfl ?_
            refine s_getR (n := 78) dX4_looksAt_204 rfl hW37.mm (fun _ _ _ => rfl) (hW37.rr 17 (by decide)).1 ?_
            refine s_iloadn dX4_looksAt_207 rfl rfl ?_
            refine s_dup2 dX4_looksAt_208 rfl rfl ?_
            refine s_lald' (j := k) dX4_looksAt_209 (Or.inr (Or.inl (hW37.rr 17 (by decide)).2.1)) rfl (by rw [(hW37.rr 17 (by decide)).2.2]; exact hk) (by rw [(hW37.rr 17 (by decide)).2.2]; decide) ?_
            rw [hW37.aj 17 (by decide)]
            rw [show ((((((c.paj 17 k ((c.aj 17 k) + (((c.aj 17 k) * 500) / 10000))).paj 17 k (((c.aj 17 k) + (((c.aj 17 k) * 500) / 10000)) + (f_X4_flow (c.paj 17 k ((c.aj 17 k) + (((c.aj 17 k) * 500) / 10000))) k (c.ti 1)))).paj 10 k (c.aj 10 k)).paj 18 k ((c.aj 18 k) - (((c.aj 17 k) + (((c.aj 17 k) * 500) / 10000)) + (f_X4_flow (c.paj 17 k ((c.aj 17 k) + (((c.aj 17 k) * 500) / 10000))) k (c.ti 1))))).paj 17 k ((((c.aj 17 k) + (((c.aj 17 k) * 500) / 10000)) + (f_X4_flow (c.paj 17 k ((c.aj 17 k) + (((c.aj 17 k) * 500) / 10000))) k (c.ti 1))) - (((c.aj 17 k) + (((c.aj 17 k) * 500) / 10000)) + (f_X4_flow (c.paj 17 k ((c.aj 17 k) + (((c.aj 17 k) * 500) / 10000))) k (c.ti 1))))).ptj 2 ((c.tj 2) - 0)).aj 17 k = (((c.aj 17 k) + (((c.aj 17 k) * 500) / 10000)) + (f_X4_flow (c.paj 17 k ((c.aj 17 k) + (((c.aj 17 k) * 500) / 10000))) k (c.ti 1))) - (((c.aj 17 k) + (((c.aj 17 k) * 500) / 10000)) + (f_X4_flow (c.paj 17 k ((c.aj 17 k) + (((c.aj 17 k) * 500) / 10000))) k (c.ti 1))) from (by show up2 _ 17 k _ 17 k = _; exact up2_self)]
            refine s_lload dX4_looksAt_210 rfl ?_
            refine s_lsub dX4_looksAt_212 ?_
            refine s_last' (j := k) dX4_looksAt_213 (Or.inr (Or.inl (hW37.rr 17 (by decide)).2.1)) rfl (by rw [(hW37.rr 17 (by decide)).2.2]; exact hk) (by rw [(hW37.rr 17 (by decide)).2.2]; decide) ?_
            have hW38 := hW37.paj (f := 17) (by decide) (k := k) (v := ((((c.aj 17 k) + (((c.aj 17 k) * 500) / 10000)) + (f_X4_flow (c.paj 17 k ((c.aj 17 k) + (((c.aj 17 k) * 500) / 10000))) k (c.ti 1))) - (((c.aj 17 k) + (((c.aj 17 k) * 500) / 10000)) + (f_X4_flow (c.paj 17 k ((c.aj 17 k) + (((c.aj 17 k) * 500) / 10000))) k (c.ti 1)))) - 0)
            have hF38 := hF37.uJ (a := (w.ar 17)) (k := k) (v := ((((c.aj 17 k) + (((c.aj 17 k) * 500) / 10000)) + (f_X4_flow (c.paj 17 k ((c.aj 17 k) + (((c.aj 17 k) * 500) / 10000))) k (c.ti 1))) - (((c.aj 17 k) + (((c.aj 17 k) * 500) / 10000)) + (f_X4_flow (c.paj 17 k ((c.aj 17 k) + (((c.aj 17 k) * 500) / 10000))) k (c.ti 1)))) - 0) (kd := 10) ((hW37.rr 17 (by decide)).2.1) (by decide)
            refine s_lload dX4_looksAt_214 rfl ?_
            refine s_lload dX4_looksAt_216 rfl ?_
            refine s_ladd dX4_looksAt_218 ?_
            refine s_lstoren dX4_looksAt_219 rfl (by decide) ?_
            refine s_aloadn dX4_looksAt_220 rfl rfl ?_
            refine s_getR (n := 80) dX4_looksAt_221 rfl hW38.mm (fun _ _ _ => rfl) (hW38.rr 19 (by decide)).1 ?_
            refine s_iloadn dX4_looksAt_224 rfl rfl ?_
            refine s_dup2 dX4_looksAt_225 rfl rfl ?_
            refine s_lald' (j := k) dX4_looksAt_226 (Or.inr (Or.inl (hW38.rr 19 (by decide)).2.1)) rfl (by rw [(hW38.rr 19 (by decide)).2.2]; exact hk) (by rw [(hW38.rr 19 (by decide)).2.2]; decide) ?_
            rw [hW38.aj 19 (by decide)]
            rw [show (((((((c.paj 17 k ((c.aj 17 k) + (((c.aj 17 k) * 500) / 10000))).paj 17 k (((c.aj 17 k) + (((c.aj 17 k) * 500) / 10000)) + (f_X4_flow (c.paj 17 k ((c.aj 17 k) + (((c.aj 17 k) * 500) / 10000))) k (c.ti 1)))).paj 10 k (c.aj 10 k)).paj 18 k ((c.aj 18 k) - (((c.aj 17 k) + (((c.aj 17 k) * 500) / 10000)) + (f_X4_flow (c.paj 17 k ((c.aj 17 k) + (((c.aj 17 k) * 500) / 10000))) k (c.ti 1))))).paj 17 k ((((c.aj 17 k) + (((c.aj 17 k) * 500) / 10000)) + (f_X4_flow (c.paj 17 k ((c.aj 17 k) + (((c.aj 17 k) * 500) / 10000))) k (c.ti 1))) - (((c.aj 17 k) + (((c.aj 17 k) * 500) / 10000)) + (f_X4_flow (c.paj 17 k ((c.aj 17 k) + (((c.aj 17 k) * 500) / 10000))) k (c.ti 1))))).ptj 2 ((c.tj 2) - 0)).paj 17 k (((((c.aj 17 k) + (((c.aj 17 k) * 500) / 10000)) + (f_X4_flow (c.paj 17 k ((c.aj 17 k) + (((c.aj 17 k) * 500) / 10000))) k (c.ti 1))) - (((c.aj 17 k) + (((c.aj 17 k) * 500) / 10000)) + (f_X4_flow (c.paj 17 k ((c.aj 17 k) + (((c.aj 17 k) * 500) / 10000))) k (c.ti 1)))) - 0)).aj 19 k = (c.aj 19 k) from (rfl)]
            refine s_lloadn dX4_looksAt_227 rfl rfl ?_
            refine s_ladd dX4_looksAt_228 ?_
            refine s_last' (j := k) dX4_looksAt_229 (Or.inr (Or.inl (hW38.rr 19 (by decide)).2.1)) rfl (by rw [(hW38.rr 19 (by decide)).2.2]; exact hk) (by rw [(hW38.rr 19 (by decide)).2.2]; decide) ?_
            have hW39 := hW38.paj (f := 19) (by decide) (k := k) (v := (c.aj 19 k) + ((((c.aj 17 k) + (((c.aj 17 k) * 500) / 10000)) + (f_X4_flow (c.paj 17 k ((c.aj 17 k) + (((c.aj 17 k) * 500) / 10000))) k (c.ti 1))) + 0))
            have hF39 := hF38.uJ (a := (w.ar 19)) (k := k) (v := (c.aj 19 k) + ((((c.aj 17 k) + (((c.aj 17 k) * 500) / 10000)) + (f_X4_flow (c.paj 17 k ((c.aj 17 k) + (((c.aj 17 k) * 500) / 10000))) k (c.ti 1))) + 0)) (kd := 10) ((hW38.rr 19 (by decide)).2.1) (by decide)
            refine s_aloadn dX4_looksAt_230 rfl rfl ?_
            refine s_getR (n := 73) dX4_looksAt_231 rfl hW39.mm (fun _ _ _ => rfl) (hW39.rr 12 (by decide)).1 ?_
            refine s_iloadn dX4_looksAt_234 rfl rfl ?_
            refine s_iald' (j := k) dX4_looksAt_235 ((hW39.rr 12 (by decide)).2.1) rfl (by rw [(hW39.rr 12 (by decide)).2.2]; exact hk) (by rw [(hW39.rr 12 (by decide)).2.2]; decide) ?_
            rw [hW39.ai 12 (by decide)]
            refine s_aloadn dX4_looksAt_236 rfl rfl ?_
            refine s_get (v := .int (c.ti 1)) (n := 62) dX4_looksAt_237 rfl hW39.mm (congrArg Value.int (congrFun hW39.ti 1)) ?_
            refine s_icgt (tgt := 259) dX4_looksAt_240 (by decide) (fun c_240 => ?_) (fun c_240 => ?_)
            · skip
              refine s_lloadn dX4_looksAt_259 rfl rfl ?_
              exact s_retl dX4_looksAt_260 rfl (NJ.of (F := f_X4_looksAt c k) (x := (((c.aj 17 k) + (((c.aj 17 k) * 500) / 10000)) + (f_X4_flow (c.paj 17 k ((c.aj 17 k) + (((c.aj 17 k) * 500) / 10000))) k (c.ti 1))) + 0) (by unfold f_X4_looksAt; rw [if_neg c_8, if_neg c_67, if_neg c_93, if_pos c_147, if_neg c_155, if_pos c_240]) hW39 hF39)
            · skip
              refine s_aloadn dX4_looksAt_243 rfl rfl ?_
              refine s_getR (n := 78) dX4_looksAt_244 rfl hW39.mm (fun _ _ _ => rfl) (hW39.rr 17 (by decide)).1 ?_
              refine s_iloadn dX4_looksAt_247 rfl rfl ?_
              refine s_lald' (j := k) dX4_looksAt_248 (Or.inr (Or.inl (hW39.rr 17 (by decide)).2.1)) rfl (by rw [(hW39.rr 17 (by decide)).2.2]; exact hk) (by rw [(hW39.rr 17 (by decide)).2.2]; decide) ?_
              rw [hW39.aj 17 (by decide)]
              rw [show ((((((((c.paj 17 k ((c.aj 17 k) + (((c.aj 17 k) * 500) / 10000))).paj 17 k (((c.aj 17 k) + (((c.aj 17 k) * 500) / 10000)) + (f_X4_flow (c.paj 17 k ((c.aj 17 k) + (((c.aj 17 k) * 500) / 10000))) k (c.ti 1)))).paj 10 k (c.aj 10 k)).paj 18 k ((c.aj 18 k) - (((c.aj 17 k) + (((c.aj 17 k) * 500) / 10000)) + (f_X4_flow (c.paj 17 k ((c.aj 17 k) + (((c.aj 17 k) * 500) / 10000))) k (c.ti 1))))).paj 17 k ((((c.aj 17 k) + (((c.aj 17 k) * 500) / 10000)) + (f_X4_flow (c.paj 17 k ((c.aj 17 k) + (((c.aj 17 k) * 500) / 10000))) k (c.ti 1))) - (((c.aj 17 k) + (((c.aj 17 k) * 500) / 10000)) + (f_X4_flow (c.paj 17 k ((c.aj 17 k) + (((c.aj 17 k) * 500) / 10000))) k (c.ti 1))))).ptj 2 ((c.tj 2) - 0)).paj 17 k (((((c.aj 17 k) + (((c.aj 17 k) * 500) / 10000)) + (f_X4_flow (c.paj 17 k ((c.aj 17 k) + (((c.aj 17 k) * 500) / 10000))) k (c.ti 1))) - (((c.aj 17 k) + (((c.aj 17 k) * 500) / 10000)) + (f_X4_flow (c.paj 17 k ((c.aj 17 k) + (((c.aj 17 k) * 500) / 10000))) k (c.ti 1)))) - 0)).paj 19 k ((c.aj 19 k) + ((((c.aj 17 k) + (((c.aj 17 k) * 500) / 10000)) + (f_X4_flow (c.paj 17 k ((c.aj 17 k) + (((c.aj 17 k) * 500) / 10000))) k (c.ti 1))) + 0))).aj 17 k = ((((c.aj 17 k) + (((c.aj 17 k) * 500) / 10000)) + (f_X4_flow (c.paj 17 k ((c.aj 17 k) + (((c.aj 17 k) * 500) / 10000))) k (c.ti 1))) - (((c.aj 17 k) + (((c.aj 17 k) * 500) / 10000)) + (f_X4_flow (c.paj 17 k ((c.aj 17 k) + (((c.aj 17 k) * 500) / 10000))) k (c.ti 1)))) - 0 from (by show up2 _ 17 k _ 17 k = _; exact up2_self)]
              refine s_lconst (v := 0) dX4_looksAt_249 (by decide) ?_
              refine s_lcne (tgt := 259) dX4_looksAt_250 dX4_looksAt_251 (by decide) (fun c_250 => ?_) (fun c_250 => ?_)
              · skip
                refine s_lloadn dX4_looksAt_259 rfl rfl ?_
                exact s_retl dX4_looksAt_260 rfl (NJ.of (F := f_X4_looksAt c k) (x := (((c.aj 17 k) + (((c.aj 17 k) * 500) / 10000)) + (f_X4_flow (c.paj 17 k ((c.aj 17 k) + (((c.aj 17 k) * 500) / 10000))) k (c.ti 1))) + 0) (by unfold f_X4_looksAt; rw [if_neg c_8, if_neg c_67, if_neg c_93, if_pos c_147, if_neg c_155, if_neg c_240, if_neg c_250]) hW39 hF39)
              · skip
                refine s_aloadn dX4_looksAt_254 rfl rfl ?_
                refine s_iloadn dX4_looksAt_255 rfl rfl ?_
                refine s_cv1G (n := 55) dX4_looksAt_256 rfl (kv hW39.mm (by decide) rfl) rfl (by decide) (by decide) (by decide) (by decide) (Nat.le_of_ble_eq_true rfl) (m_X4_ends hW39 hk) (fun r40 S40 hr40 => ?_) (fun x S2 hr => by obtain ⟨e, -⟩ := hr; cases e)
                obtain ⟨e40, hW40, hG40⟩ := hr40
                cases e40
                have hF40 := hF39.tr hG40
                refine s_lloadn dX4_looksAt_259 rfl rfl ?_
                exact s_retl dX4_looksAt_260 rfl (NJ.of (F := f_X4_looksAt c k) (x := (((c.aj 17 k) + (((c.aj 17 k) * 500) / 10000)) + (f_X4_flow (c.paj 17 k ((c.aj 17 k) + (((c.aj 17 k) * 500) / 10000))) k (c.ti 1))) + 0) (by unfold f_X4_looksAt; rw [if_neg c_8, if_neg c_67, if_neg c_93, if_pos c_147, if_neg c_155, if_neg c_240, if_pos c_250]) hW40 hF40)
    · skip
      refine s_lconst (v := 0) dX4_looksAt_70 (by decide) ?_
      refine s_goto (tgt := 80) dX4_looksAt_71 (by decide) ?_
      refine s_last' (j := k) dX4_looksAt_80 (Or.inr (Or.inl (hW3.rr 10 (by decide)).2.1)) rfl (by rw [(hW3.rr 10 (by decide)).2.2]; exact hk) (by rw [(hW3.rr 10 (by decide)).2.2]; decide) ?_
      have hW41 := hW3.paj (f := 10) (by decide) (k := k) (v := 0)
      have hF41 := hF3.uJ (a := (w.ar 10)) (k := k) (v := 0) (kd := 10) ((hW3.rr 10 (by decide)).2.1) (by decide)
      refine s_aloadn dX4_looksAt_81 rfl rfl ?_
      refine s_getR (n := 78) dX4_looksAt_82 rfl hW41.mm (fun _ _ _ => rfl) (hW41.rr 17 (by decide)).1 ?_
      refine s_iloadn dX4_looksAt_85 rfl rfl ?_
      refine s_lald' (j := k) dX4_looksAt_86 (Or.inr (Or.inl (hW41.rr 17 (by decide)).2.1)) rfl (by rw [(hW41.rr 17 (by decide)).2.2]; exact hk) (by rw [(hW41.rr 17 (by decide)).2.2]; decide) ?_
      rw [hW41.aj 17 (by decide)]
      rw [show (((c.paj 17 k ((c.aj 17 k) + (((c.aj 17 k) * 500) / 10000))).paj 17 k (((c.aj 17 k) + (((c.aj 17 k) * 500) / 10000)) + (f_X4_flow (c.paj 17 k ((c.aj 17 k) + (((c.aj 17 k) * 500) / 10000))) k (c.ti 1)))).paj 10 k 0).aj 17 k = ((c.aj 17 k) + (((c.aj 17 k) * 500) / 10000)) + (f_X4_flow (c.paj 17 k ((c.aj 17 k) + (((c.aj 17 k) * 500) / 10000))) k (c.ti 1)) from (by show up2 _ 17 k _ 17 k = _; exact up2_self)]
      refine s_aloadn dX4_looksAt_87 rfl rfl ?_
      refine s_getR (n := 79) dX4_looksAt_88 rfl hW41.mm (fun _ _ _ => rfl) (hW41.rr 18 (by decide)).1 ?_
      refine s_iloadn dX4_looksAt_91 rfl rfl ?_
      refine s_lald' (j := k) dX4_looksAt_92 (Or.inr (Or.inl (hW41.rr 18 (by decide)).2.1)) rfl (by rw [(hW41.rr 18 (by decide)).2.2]; exact hk) (by rw [(hW41.rr 18 (by decide)).2.2]; decide) ?_
      rw [hW41.aj 18 (by decide)]
      rw [show (((c.paj 17 k ((c.aj 17 k) + (((c.aj 17 k) * 500) / 10000))).paj 17 k (((c.aj 17 k) + (((c.aj 17 k) * 500) / 10000)) + (f_X4_flow (c.paj 17 k ((c.aj 17 k) + (((c.aj 17 k) * 500) / 10000))) k (c.ti 1)))).paj 10 k 0).aj 18 k = (c.aj 18 k) from (rfl)]
      refine s_lcge (tgt := 106) dX4_looksAt_93 dX4_looksAt_94 (by decide) (fun c_93 => ?_) (fun c_93 => ?_)
      · skip
        refine s_aloadn dX4_looksAt_106 rfl rfl ?_
        refine s_getR (n := 79) dX4_looksAt_107 rfl hW41.mm (fun _ _ _ => rfl) (hW41.rr 18 (by decide)).1 ?_
        refine s_iloadn dX4_looksAt_110 rfl rfl ?_
        refine s_lald' (j := k) dX4_looksAt_111 (Or.inr (Or.inl (hW41.rr 18 (by decide)).2.1)) rfl (by rw [(hW41.rr 18 (by decide)).2.2]; exact hk) (by rw [(hW41.rr 18 (by decide)).2.2]; decide) ?_
        rw [hW41.aj 18 (by decide)]
        rw [show (((c.paj 17 k ((c.aj 17 k) + (((c.aj 17 k) * 500) / 10000))).paj 17 k (((c.aj 17 k) + (((c.aj 17 k) * 500) / 10000)) + (f_X4_flow (c.paj 17 k ((c.aj 17 k) + (((c.aj 17 k) * 500) / 10000))) k (c.ti 1)))).paj 10 k 0).aj 18 k = (c.aj 18 k) from (rfl)]
        refine s_lstore dX4_looksAt_112 (by decide) ?_
        refine s_aloadn dX4_looksAt_114 rfl rfl ?_
        refine s_getR (n := 79) dX4_looksAt_115 rfl hW41.mm (fun _ _ _ => rfl) (hW41.rr 18 (by decide)).1 ?_
        refine s_iloadn dX4_looksAt_118 rfl rfl ?_
        refine s_dup2 dX4_looksAt_119 rfl rfl ?_
        refine s_lald' (j := k) dX4_looksAt_120 (Or.inr (Or.inl (hW41.rr 18 (by decide)).2.1)) rfl (by rw [(hW41.rr 18 (by decide)).2.2]; exact hk) (by rw [(hW41.rr 18 (by decide)).2.2]; decide) ?_
        rw [hW41.aj 18 (by decide)]
        rw [show (((c.paj 17 k ((c.aj 17 k) + (((c.aj 17 k) * 500) / 10000))).paj 17 k (((c.aj 17 k) + (((c.aj 17 k) * 500) / 10000)) + (f_X4_flow (c.paj 17 k ((c.aj 17 k) + (((c.aj 17 k) * 500) / 10000))) k (c.ti 1)))).paj 10 k 0).aj 18 k = (c.aj 18 k) from (rfl)]
        refine s_lload dX4_looksAt_121 rfl ?_
        refine s_lsub dX4_looksAt_123 ?_
        refine s_last' (j := k) dX4_looksAt_124 (Or.inr (Or.inl (hW41.rr 18 (by decide)).2.1)) rfl (by rw [(hW41.rr 18 (by decide)).2.2]; exact hk) (by rw [(hW41.rr 18 (by decide)).2.2]; decide) ?_
        have hW42 := hW41.paj (f := 18) (by decide) (k := k) (v := (c.aj 18 k) - (c.aj 18 k))
        have hF42 := hF41.uJ (a := (w.ar 18)) (k := k) (v := (c.aj 18 k) - (c.aj 18 k)) (kd := 10) ((hW41.rr 18 (by decide)).2.1) (by decide)
        refine s_aloadn dX4_looksAt_125 rfl rfl ?_
        refine s_getR (n := 78) dX4_looksAt_126 rfl hW42.mm (fun _ _ _ => rfl) (hW42.rr 17 (by decide)).1 ?_
        refine s_iloadn dX4_looksAt_129 rfl rfl ?_
        refine s_dup2 dX4_looksAt_130 rfl rfl ?_
        refine s_lald' (j := k) dX4_looksAt_131 (Or.inr (Or.inl (hW42.rr 17 (by decide)).2.1)) rfl (by rw [(hW42.rr 17 (by decide)).2.2]; exact hk) (by rw [(hW42.rr 17 (by decide)).2.2]; decide) ?_
        rw [hW42.aj 17 (by decide)]
        rw [show ((((c.paj 17 k ((c.aj 17 k) + (((c.aj 17 k) * 500) / 10000))).paj 17 k (((c.aj 17 k) + (((c.aj 17 k) * 500) / 10000)) + (f_X4_flow (c.paj 17 k ((c.aj 17 k) + (((c.aj 17 k) * 500) / 10000))) k (c.ti 1)))).paj 10 k 0).paj 18 k ((c.aj 18 k) - (c.aj 18 k))).aj 17 k = ((c.aj 17 k) + (((c.aj 17 k) * 500) / 10000)) + (f_X4_flow (c.paj 17 k ((c.aj 17 k) + (((c.aj 17 k) * 500) / 10000))) k (c.ti 1)) from (by show up2 _ 17 k _ 17 k = _; exact up2_self)]
        refine s_lload dX4_looksAt_132 rfl ?_
        refine s_lsub dX4_looksAt_134 ?_
        refine s_last' (j := k) dX4_looksAt_135 (Or.inr (Or.inl (hW42.rr 17 (by decide)).2.1)) rfl (by rw [(hW42.rr 17 (by decide)).2.2]; exact hk) (by rw [(hW42.rr 17 (by decide)).2.2]; decide) ?_
        have hW43 := hW42.paj (f := 17) (by decide) (k := k) (v := (((c.aj 17 k) + (((c.aj 17 k) * 500) / 10000)) + (f_X4_flow (c.paj 17 k ((c.aj 17 k) + (((c.aj 17 k) * 500) / 10000))) k (c.ti 1))) - (c.aj 18 k))
        have hF43 := hF42.uJ (a := (w.ar 17)) (k := k) (v := (((c.aj 17 k) + (((c.aj 17 k) * 500) / 10000)) + (f_X4_flow (c.paj 17 k ((c.aj 17 k) + (((c.aj 17 k) * 500) / 10000))) k (c.ti 1))) - (c.aj 18 k)) (kd := 10) ((hW42.rr 17 (by decide)).2.1) (by decide)
        refine s_aloadn dX4_looksAt_136 rfl rfl ?_
        refine s_getR (n := 83) dX4_looksAt_137 rfl hW43.mm (fun _ _ _ => rfl) (hW43.rr 22 (by decide)).1 ?_
        refine s_aloadn dX4_looksAt_140 rfl rfl ?_
        refine s_getR (n := 69) dX4_looksAt_141 rfl hW43.mm (fun _ _ _ => rfl) (hW43.rr 8 (by decide)).1 ?_
        refine s_iloadn dX4_looksAt_144 rfl rfl ?_
        refine s_iald' (j := k) dX4_looksAt_145 ((hW43.rr 8 (by decide)).2.1) rfl (by rw [(hW43.rr 8 (by decide)).2.2]; exact hk) (by rw [(hW43.rr 8 (by decide)).2.2]; decide) ?_
        rw [hW43.ai 8 (by decide)]
        refine s_zald' (j := (ix (c.ai 8 k))) dX4_looksAt_146 ((hW43.rr 22 (by decide)).2.1) (ix_nI hK.1).symm (by rw [(hW43.rr 22 (by decide)).2.2]; exact (ix_of hK.1 hK.2 (by decide))) (by rw [(hW43.rr 22 (by decide)).2.2]; decide) ?_
        rw [hW43.ai 22 (by decide)]
        refine s_ifne (tgt := 159) dX4_looksAt_147 (by decide) (fun c_147 => ?_) (fun c_147 => ?_)
        · skip
          refine s_lconst (v := 0) dX4_looksAt_159 (by decide) ?_
          refine s_goto (tgt := 190) dX4_looksAt_160 (by decide) ?_
          refine s_lstore dX4_looksAt_190 (by decide) ?_
          refine s_aloadn dX4_looksAt_192 rfl rfl ?_
          refine s_dup dX4_looksAt_193 rfl ?_
          refine s_get (v := .long (c.tj 2)) (n := 63) dX4_looksAt_194 rfl hW43.mm (congrArg Value.long (congrFun hW43.tj 2)) ?_
          refine s_lload dX4_looksAt_197 rfl ?_
          refine s_lsub dX4_looksAt_199 ?_
          refine s_putJ (n := 63) dX4_looksAt_200 rfl hW43.mm (Or.inl rfl) (fun _ _ _ => rfl) rfl rfl ?_
          have hW44 := hW43.ptj (k := 2) (v := (c.tj 2) - 0)
          have hF44 := hF43.uJ (a := w.mm) (k := 2) (v := (c.tj 2) - 0) (kd := 5) hW43.mm (by decide)
          refine s_aloadn dX4_looksAt_203 rfl rfl ?_
          refine s_getR (n := 78) dX4_looksAt_204 rfl hW44.mm (fun _ _ _ => rfl) (hW44.rr 17 (by decide)).1 ?_
          refine s_iloadn dX4_looksAt_207 rfl rfl ?_
          refine s_dup2 dX4_looksAt_208 rfl rfl ?_
          refine s_lald' (j := k) dX4_looksAt_209 (Or.inr (Or.inl (hW44.rr 17 (by decide)).2.1)) rfl (by rw [(hW44.rr 17 (by decide)).2.2]; exact hk) (by rw [(hW44.rr 17 (by decide)).2.2]; decide) ?_
          rw [hW44.aj 17 (by decide)]
          rw [show ((((((c.paj 17 k ((c.aj 17 k) + (((c.aj 17 k) * 500) / 10000))).paj 17 k (((c.aj 17 k) + (((c.aj 17 k) * 500) / 10000)) + (f_X4_flow (c.paj 17 k ((c.aj 17 k) + (((c.aj 17 k) * 500) / 10000))) k (c.ti 1)))).paj 10 k 0).paj 18 k ((c.aj 18 k) - (c.aj 18 k))).paj 17 k ((((c.aj 17 k) + (((c.aj 17 k) * 500) / 10000)) + (f_X4_flow (c.paj 17 k ((c.aj 17 k) + (((c.aj 17 k) * 500) / 10000))) k (c.ti 1))) - (c.aj 18 k))).ptj 2 ((c.tj 2) - 0)).aj 17 k = (((c.aj 17 k) + (((c.aj 17 k) * 500) / 10000)) + (f_X4_flow (c.paj 17 k ((c.aj 17 k) + (((c.aj 17 k) * 500) / 10000))) k (c.ti 1))) - (c.aj 18 k) from (by show up2 _ 17 k _ 17 k = _; exact up2_self)]
          refine s_lload dX4_looksAt_210 rfl ?_
          refine s_lsub dX4_looksAt_212 ?_
          refine s_last' (j := k) dX4_looksAt_213 (Or.inr (Or.inl (hW44.rr 17 (by decide)).2.1)) rfl (by rw [(hW44.rr 17 (by decide)).2.2]; exact hk) (by rw [(hW44.rr 17 (by decide)).2.2]; decide) ?_
          have hW45 := hW44.paj (f := 17) (by decide) (k := k) (v := ((((c.aj 17 k) + (((c.aj 17 k) * 500) / 10000)) + (f_X4_flow (c.paj 17 k ((c.aj 17 k) + (((c.aj 17 k) * 500) / 10000))) k (c.ti 1))) - (c.aj 18 k)) - 0)
          have hF45 := hF44.uJ (a := (w.ar 17)) (k := k) (v := ((((c.aj 17 k) + (((c.aj 17 k) * 500) / 10000)) + (f_X4_flow (c.paj 17 k ((c.aj 17 k) + (((c.aj 17 k) * 500) / 10000))) k (c.ti 1))) - (c.aj 18 k)) - 0) (kd := 10) ((hW44.rr 17 (by decide)).2.1) (by decide)
          refine s_lload dX4_looksAt_214 rfl ?_
          refine s_lload dX4_looksAt_216 rfl ?_
          refine s_ladd dX4_looksAt_218 ?_
          refine s_lstoren dX4_looksAt_219 rfl (by decide) ?_
          refine s_aloadn dX4_looksAt_220 rfl rfl ?_
          refine s_getR (n := 80) dX4_looksAt_221 rfl hW45.mm (fun _ _ _ => rfl) (hW45.rr 19 (by decide)).1 ?_
          refine s_iloadn dX4_looksAt_224 rfl rfl ?_
          refine s_dup2 dX4_looksAt_225 rfl rfl ?_
          refine s_lald' (j := k) dX4_looksAt_226 (Or.inr (Or.inl (hW45.rr 19 (by decide)).2.1)) rfl (by rw [(hW45.rr 19 (by decide)).2.2]; exact hk) (by rw [(hW45.rr 19 (by decide)).2.2]; decide) ?_
          rw [hW45.aj 19 (by decide)]
          rw [show (((((((c.paj 17 k ((c.aj 17 k) + (((c.aj 17 k) * 500) / 10000))).paj 17 k (((c.aj 17 k) + (((c.aj 17 k) * 500) / 10000)) + (f_X4_flow (c.paj 17 k ((c.aj 17 k) + (((c.aj 17 k) * 500) / 10000))) k (c.ti 1)))).paj 10 k 0).paj 18 k ((c.aj 18 k) - (c.aj 18 k))).paj 17 k ((((c.aj 17 k) + (((c.aj 17 k) * 500) / 10000)) + (f_X4_flow (c.paj 17 k ((c.aj 17 k) + (((c.aj 17 k) * 500) / 10000))) k (c.ti 1))) - (c.aj 18 k))).ptj 2 ((c.tj 2) - 0)).paj 17 k (((((c.aj 17 k) + (((c.aj 17 k) * 500) / 10000)) + (f_X4_flow (c.paj 17 k ((c.aj 17 k) + (((c.aj 17 k) * 500) / 10000))) k (c.ti 1))) - (c.aj 18 k)) - 0)).aj 19 k = (c.aj 19 k) from (rfl)]
          refine s_lloadn dX4_looksAt_227 rfl rfl ?_
          refine s_ladd dX4_looksAt_228 ?_
          refine s_last' (j := k) dX4_looksAt_229 (Or.inr (Or.inl (hW45.rr 19 (by decide)).2.1)) rfl (by rw [(hW45.rr 19 (by decide)).2.2]; exact hk) (by rw [(hW45.rr 19 (by decide)).2.2]; decide) ?_
          have hW46 := hW45.paj (f := 19) (by decide) (k := k) (v := (c.aj 19 k) + ((c.aj 18 k) + 0))
          have hF46 := hF45.uJ (a := (w.ar 19)) (k := k) (v := (c.aj 19 k) + ((c.aj 18 k) + 0)) (kd := 10) ((hW45.rr 19 (by decide)).2.1) (by decide)
          refine s_aloadn dX4_looksAt_230 rfl rfl ?_
          refine s_getR (n := 73) dX4_looksAt_231 rfl hW46.mm (fun _ _ _ => rfl) (hW46.rr 12 (by decide)).1 ?_
          refine s_iloadn dX4_looksAt_234 rfl rfl ?_
          refine s_iald' (j := k) dX4_looksAt_235 ((hW46.rr 12 (by decide)).2.1) rfl (by rw [(hW46.rr 12 (by decide)).2.2]; exact hk) (by rw [(hW46.rr 12 (by decide)).2.2]; decide) ?_
          rw [hW46.ai 12 (by decide)]
          refine s_aloadn dX4_looksAt_236 rfl rfl ?_
          refine s_get (v := .int (c.ti 1)) (n := 62) dX4_looksAt_237 rfl hW46.mm (congrArg Value.int (congrFun hW46.ti 1)) ?_
          refine s_icgt (tgt := 259) dX4_looksAt_240 (by decide) (fun c_240 => ?_) (fun c_240 => ?_)
          · skip
            refine s_lloadn dX4_looksAt_259 rfl rfl ?_
            exact s_retl dX4_looksAt_260 rfl (NJ.of (F := f_X4_looksAt c k) (x := (c.aj 18 k) + 0) (by unfold f_X4_looksAt; rw [if_neg c_8, if_pos c_67, if_pos c_93, if_neg c_147, if_pos c_240]) hW46 hF46)
          · skip
            refine s_aloadn dX4_looksAt_243 rfl rfl ?_
            refine s_getR (n := 78) dX4_looksAt_244 rfl hW46.mm (fun _ _ _ => rfl) (hW46.rr 17 (by decide)).1 ?_
            refine s_iloadn dX4_looksAt_247 rfl rfl ?_
            refine s_lald' (j := k) dX4_looksAt_248 (Or.inr (Or.inl (hW46.rr 17 (by decide)).2.1)) rfl (by rw [(hW46.rr 17 (by decide)).2.2]; exact hk) (by rw [(hW46.rr 17 (by decide)).2.2]; decide) ?_
            rw [hW46.aj 17 (by decide)]
            rw [show ((((((((c.paj 17 k ((c.aj 17 k) + (((c.aj 17 k) * 500) / 10000))).paj 17 k (((c.aj 17 k) + (((c.aj 17 k) * 500) / 10000)) + (f_X4_flow (c.paj 17 k ((c.aj 17 k) + (((c.aj 17 k) * 500) / 10000))) k (c.ti 1)))).paj 10 k 0).paj 18 k ((c.aj 18 k) - (c.aj 18 k))).paj 17 k ((((c.aj 17 k) + (((c.aj 17 k) * 500) / 10000)) + (f_X4_flow (c.paj 17 k ((c.aj 17 k) + (((c.aj 17 k) * 500) / 10000))) k (c.ti 1))) - (c.aj 18 k))).ptj 2 ((c.tj 2) - 0)).paj 17 k (((((c.aj 17 k) + (((c.aj 17 k) * 500) / 10000)) + (f_X4_flow (c.paj 17 k ((c.aj 17 k) + (((c.aj 17 k) * 500) / 10000))) k (c.ti 1))) - (c.aj 18 k)) - 0)).paj 19 k ((c.aj 19 k) + ((c.aj 18 k) + 0))).aj 17 k = ((((c.aj 17 k) + (((c.aj 17 k) * 500) / 10000)) + (f_X4_flow (c.paj 17 k ((c.aj 17 k) + (((c.aj 17 k) * 500) / 10000))) k (c.ti 1))) - (c.aj 18 k)) - 0 from (by show up2 _ 17 k _ 17 k = _; exact up2_self)]
            refine s_lconst (v := 0) dX4_looksAt_249 (by decide) ?_
            refine s_lcne (tgt := 259) dX4_looksAt_250 dX4_looksAt_251 (by decide) (fun c_250 => ?_) (fun c_250 => ?_)
            · skip
              refine s_lloadn dX4_looksAt_259 rfl rfl ?_
              exact s_retl dX4_looksAt_260 rfl (NJ.of (F := f_X4_looksAt c k) (x := (c.aj 18 k) + 0) (by unfold f_X4_looksAt; rw [if_neg c_8, if_pos c_67, if_pos c_93, if_neg c_147, if_neg c_240, if_neg c_250]) hW46 hF46)
            · skip
              refine s_aloadn dX4_looksAt_254 rfl rfl ?_
              refine s_iloadn dX4_looksAt_255 rfl rfl ?_
              refine s_cv1G (n := 55) dX4_looksAt_256 rfl (kv hW46.mm (by decide) rfl) rfl (by decide) (by decide) (by decide) (by decide) (Nat.le_of_ble_eq_true rfl) (m_X4_ends hW46 hk) (fun r47 S47 hr47 => ?_) (fun x S2 hr => by obtain ⟨e, -⟩ := hr; cases e)
              obtain ⟨e47, hW47, hG47⟩ := hr47
              cases e47
              have hF47 := hF46.tr hG47
              refine s_lloadn dX4_looksAt_259 rfl rfl ?_
              exact s_retl dX4_looksAt_260 rfl (NJ.of (F := f_X4_looksAt c k) (x := (c.aj 18 k) + 0) (by unfold f_X4_looksAt; rw [if_neg c_8, if_pos c_67, if_pos c_93, if_neg c_147, if_neg c_240, if_pos c_250]) hW47 hF47)
        · skip
          refine s_aloadn dX4_looksAt_150 rfl rfl ?_
          refine s_get (v := .long (c.tj 2)) (n := 63) dX4_looksAt_151 rfl hW43.mm (congrArg Value.long (congrFun hW43.tj 2)) ?_
          refine s_lconst (v := 0) dX4_looksAt_154 (by decide) ?_
          refine s_lcge (tgt := 163) dX4_looksAt_155 dX4_looksAt_156 (by decide) (fun c_155 => ?_) (fun c_155 => ?_)
          · skip
            refine s_aloadn dX4_looksAt_163 rfl rfl ?_
            refine s_getR (n := 78) dX4_looksAt_164 rfl hW43.mm (fun _ _ _ => rfl) (hW43.rr 17 (by decide)).1 ?_
            refine s_iloadn dX4_looksAt_167 rfl rfl ?_
            refine s_lald' (j := k) dX4_looksAt_168 (Or.inr (Or.inl (hW43.rr 17 (by decide)).2.1)) rfl (by rw [(hW43.rr 17 (by decide)).2.2]; exact hk) (by rw [(hW43.rr 17 (by decide)).2.2]; decide) ?_
            rw [hW43.aj 17 (by decide)]
            rw [show (((((c.paj 17 k ((c.aj 17 k) + (((c.aj 17 k) * 500) / 10000))).paj 17 k (((c.aj 17 k) + (((c.aj 17 k) * 500) / 10000)) + (f_X4_flow (c.paj 17 k ((c.aj 17 k) + (((c.aj 17 k) * 500) / 10000))) k (c.ti 1)))).paj 10 k 0).paj 18 k ((c.aj 18 k) - (c.aj 18 k))).paj 17 k ((((c.aj 17 k) + (((c.aj 17 k) * 500) / 10000)) + (f_X4_flow (c.paj 17 k ((c.aj 17 k) + (((c.aj 17 k) * 500) / 10000))) k (c.ti 1))) - (c.aj 18 k))).aj 17 k = (((c.aj 17 k) + (((c.aj 17 k) * 500) / 10000)) + (f_X4_flow (c.paj 17 k ((c.aj 17 k) + (((c.aj 17 k) * 500) / 10000))) k (c.ti 1))) - (c.aj 18 k) from (by show up2 _ 17 k _ 17 k = _; exact up2_self)]
            refine s_aloadn dX4_looksAt_169 rfl rfl ?_
            refine s_get (v := .long (c.tj 2)) (n := 63) dX4_looksAt_170 rfl hW43.mm (congrArg Value.long (congrFun hW43.tj 2)) ?_
            refine s_lcge (tgt := 186) dX4_looksAt_173 dX4_looksAt_174 (by decide) (fun c_173 => ?_) (fun c_173 => ?_)
            · skip
              refine s_aloadn dX4_looksAt_186 rfl rfl ?_
              refine s_get (v := .long (c.tj 2)) (n := 63) dX4_looksAt_187 rfl hW43.mm (congrArg Value.long (congrFun hW43.tj 2)) ?_
              refine s_lstore dX4_looksAt_190 (by decide) ?_
              refine s_aloadn dX4_looksAt_192 rfl rfl ?_
              refine s_dup dX4_looksAt_193 rfl ?_
              refine s_get (v := .long (c.tj 2)) (n := 63) dX4_looksAt_194 rfl hW43.mm (congrArg Value.long (congrFun hW43.tj 2)) ?_
              refine s_lload dX4_looksAt_197 rfl ?_
              refine s_lsub dX4_looksAt_199 ?_
              refine s_putJ (n := 63) dX4_looksAt_200 rfl hW43.mm (Or.inl rfl) (fun _ _ _ => rfl) rfl rfl ?_
              have hW48 := hW43.ptj (k := 2) (v := (c.tj 2) - (c.tj 2))
              have hF48 := hF43.uJ (a := w.mm) (k := 2) (v := (c.tj 2) - (c.tj 2)) (kd := 5) hW43.mm (by decide)
              refine s_aloadn dX4_looksAt_203 rfl rfl ?_
              refine s_getR (n := 78) dX4_looksAt_204 rfl hW48.mm (fun _ _ _ => rfl) (hW48.rr 17 (by decide)).1 ?_
              refine s_iloadn dX4_looksAt_207 rfl rfl ?_
              refine s_dup2 dX4_looksAt_208 rfl rfl ?_
              refine s_lald' (j := k) dX4_looksAt_209 (Or.inr (Or.inl (hW48.rr 17 (by decide)).2.1)) rfl (by rw [(hW48.rr 17 (by decide)).2.2]; exact hk) (by rw [(hW48.rr 17 (by decide)).2.2]; decide) ?_
              rw [hW48.aj 17 (by decide)]
              rw [show ((((((c.paj 17 k ((c.aj 17 k) + (((c.aj 17 k) * 500) / 10000))).paj 17 k (((c.aj 17 k) + (((c.aj 17 k) * 500) / 10000)) + (f_X4_flow (c.paj 17 k ((c.aj 17 k) + (((c.aj 17 k) * 500) / 10000))) k (c.ti 1)))).paj 10 k 0).paj 18 k ((c.aj 18 k) - (c.aj 18 k))).paj 17 k ((((c.aj 17 k) + (((c.aj 17 k) * 500) / 10000)) + (f_X4_flow (c.paj 17 k ((c.aj 17 k) + (((c.aj 17 k) * 500) / 10000))) k (c.ti 1))) - (c.aj 18 k))).ptj 2 ((c.tj 2) - (c.tj 2))).aj 17 k = (((c.aj 17 k) + (((c.aj 17 k) * 500) / 10000)) + (f_X4_flow (c.paj 17 k ((c.aj 17 k) + (((c.aj 17 k) * 500) / 10000))) k (c.ti 1))) - (c.aj 18 k) from (by show up2 _ 17 k _ 17 k = _; exact up2_self)]
              refine s_lload dX4_looksAt_210 rfl ?_
              refine s_lsub dX4_looksAt_212 ?_
              refine s_last' (j := k) dX4_looksAt_213 (Or.inr (Or.inl (hW48.rr 17 (by decide)).2.1)) rfl (by rw [(hW48.rr 17 (by decide)).2.2]; exact hk) (by rw [(hW48.rr 17 (by decide)).2.2]; decide) ?_
              have hW49 := hW48.paj (f := 17) (by decide) (k := k) (v := ((((c.aj 17 k) + (((c.aj 17 k) * 500) / 10000)) + (f_X4_flow (c.paj 17 k ((c.aj 17 k) + (((c.aj 17 k) * 500) / 10000))) k (c.ti 1))) - (c.aj 18 k)) - (c.tj 2))
              have hF49 := hF48.uJ (a := (w.ar 17)) (k := k) (v := ((((c.aj 17 k) + (((c.aj 17 k) * 500) / 10000)) + (f_X4_flow (c.paj 17 k ((c.aj 17 k) + (((c.aj 17 k) * 500) / 10000))) k (c.ti 1))) - (c.aj 18 k)) - (c.tj 2)) (kd := 10) ((hW48.rr 17 (by decide)).2.1) (by decide)
              refine s_lload dX4_looksAt_214 rfl ?_
              refine s_lload dX4_looksAt_216 rfl ?_
              refine s_ladd dX4_looksAt_218 ?_
              refine s_lstoren dX4_looksAt_219 rfl (by decide) ?_
              refine s_aloadn dX4_looksAt_220 rfl rfl ?_
              refine s_getR (n := 80) dX4_looksAt_221 rfl hW49.mm (fun _ _ _ => rfl) (hW49.rr 19 (by decide)).1 ?_
              refine s_iloadn dX4_looksAt_224 rfl rfl ?_
              refine s_dup2 dX4_looksAt_225 rfl rfl ?_
              refine s_lald' (j := k) dX4_looksAt_226 (Or.inr (Or.inl (hW49.rr 19 (by decide)).2.1)) rfl (by rw [(hW49.rr 19 (by decide)).2.2]; exact hk) (by rw [(hW49.rr 19 (by decide)).2.2]; decide) ?_
              rw [hW49.aj 19 (by decide)]
              rw [show (((((((c.paj 17 k ((c.aj 17 k) + (((c.aj 17 k) * 500) / 10000))).paj 17 k (((c.aj 17 k) + (((c.aj 17 k) * 500) / 10000)) + (f_X4_flow (c.paj 17 k ((c.aj 17 k) + (((c.aj 17 k) * 500) / 10000))) k (c.ti 1)))).paj 10 k 0).paj 18 k ((c.aj 18 k) - (c.aj 18 k))).paj 17 k ((((c.aj 17 k) + (((c.aj 17 k) * 500) / 10000)) + (f_X4_flow (c.paj 17 k ((c.aj 17 k) + (((c.aj 17 k) * 500) / 10000))) k (c.ti 1))) - (c.aj 18 k))).ptj 2 ((c.tj 2) - (c.tj 2))).paj 17 k (((((c.aj 17 k) + (((c.aj 17 k) * 500) / 10000)) + (f_X4_flow (c.paj 17 k ((c.aj 17 k) + (((c.aj 17 k) * 500) / 10000))) k (c.ti 1))) - (c.aj 18 k)) - (c.tj 2))).aj 19 k = (c.aj 19 k) from (rfl)]
              refine s_lloadn dX4_looksAt_227 rfl rfl ?_
              refine s_ladd dX4_looksAt_228 ?_
              refine s_last' (j := k) dX4_looksAt_229 (Or.inr (Or.inl (hW49.rr 19 (by decide)).2.1)) rfl (by rw [(hW49.rr 19 (by decide)).2.2]; exact hk) (by rw [(hW49.rr 19 (by decide)).2.2]; decide) ?_
              have hW50 := hW49.paj (f := 19) (by decide) (k := k) (v := (c.aj 19 k) + ((c.aj 18 k) + (c.tj 2)))
              have hF50 := hF49.uJ (a := (w.ar 19)) (k := k) (v := (c.aj 19 k) + ((c.aj 18 k) + (c.tj 2))) (kd := 10) ((hW49.rr 19 (by decide)).2.1) (by decide)
              refine s_aloadn dX4_looksAt_230 rfl rfl ?_
              refine s_getR (n := 73) dX4_looksAt_231 rfl hW50.mm (fun _ _ _ => rfl) (hW50.rr 12 (by decide)).1 ?_
              refine s_iloadn dX4_looksAt_234 rfl rfl ?_
              refine s_iald' (j := k) dX4_looksAt_235 ((hW50.rr 12 (by decide)).2.1) rfl (by rw [(hW50.rr 12 (by decide)).2.2]; exact hk) (by rw [(hW50.rr 12 (by decide)).2.2]; decide) ?_
              rw [hW50.ai 12 (by decide)]
              refine s_aloadn dX4_looksAt_236 rfl rfl ?_
              refine s_get (v := .int (c.ti 1)) (n := 62) dX4_looksAt_237 rfl hW50.mm (congrArg Value.int (congrFun hW50.ti 1)) ?_
              refine s_icgt (tgt := 259) dX4_looksAt_240 (by decide) (fun c_240 => ?_) (fun c_240 => ?_)
              · skip
                refine s_lloadn dX4_looksAt_259 rfl rfl ?_
                exact s_retl dX4_looksAt_260 rfl (NJ.of (F := f_X4_looksAt c k) (x := (c.aj 18 k) + (c.tj 2)) (by unfold f_X4_looksAt; rw [if_neg c_8, if_pos c_67, if_pos c_93, if_pos c_147, if_pos c_155, if_pos c_173, if_pos c_240]) hW50 hF50)
              · skip
                refine s_aloadn dX4_looksAt_243 rfl rfl ?_
                refine s_getR (n := 78) dX4_looksAt_244 rfl hW50.mm (fun _ _ _ => rfl) (hW50.rr 17 (by decide)).1 ?_
                refine s_iloadn dX4_looksAt_247 rfl rfl ?_
                refine s_lald' (j := k) dX4_looksAt_248 (Or.inr (Or.inl (hW50.rr 17 (by decide)).2.1)) rfl (by rw [(hW50.rr 17 (by decide)).2.2]; exact hk) (by rw [(hW50.rr 17 (by decide)).2.2]; decide) ?_
                rw [hW50.aj 17 (by decide)]
                rw [show ((((((((c.paj 17 k ((c.aj 17 k) + (((c.aj 17 k) * 500) / 10000))).paj 17 k (((c.aj 17 k) + (((c.aj 17 k) * 500) / 10000)) + (f_X4_flow (c.paj 17 k ((c.aj 17 k) + (((c.aj 17 k) * 500) / 10000))) k (c.ti 1)))).paj 10 k 0).paj 18 k ((c.aj 18 k) - (c.aj 18 k))).paj 17 k ((((c.aj 17 k) + (((c.aj 17 k) * 500) / 10000)) + (f_X4_flow (c.paj 17 k ((c.aj 17 k) + (((c.aj 17 k) * 500) / 10000))) k (c.ti 1))) - (c.aj 18 k))).ptj 2 ((c.tj 2) - (c.tj 2))).paj 17 k (((((c.aj 17 k) + (((c.aj 17 k) * 500) / 10000)) + (f_X4_flow (c.paj 17 k ((c.aj 17 k) + (((c.aj 17 k) * 500) / 10000))) k (c.ti 1))) - (c.aj 18 k)) - (c.tj 2))).paj 19 k ((c.aj 19 k) + ((c.aj 18 k) + (c.tj 2)))).aj 17 k = ((((c.aj 17 k) + (((c.aj 17 k) * 500) / 10000)) + (f_X4_flow (c.paj 17 k ((c.aj 17 k) + (((c.aj 17 k) * 500) / 10000))) k (c.ti 1))) - (c.aj 18 k)) - (c.tj 2) from (by show up2 _ 17 k _ 17 k = _; exact up2_self)]
                refine s_lconst (v := 0) dX4_looksAt_249 (by decide) ?_
                refine s_lcne (tgt := 259) dX4_looksAt_250 dX4_looksAt_251 (by decide) (fun c_250 => ?_) (fun c_250 => ?_)
                · skip
                  refine s_lloadn dX4_looksAt_259 rfl rfl ?_
                  exact s_retl dX4_looksAt_260 rfl (NJ.of (F := f_X4_looksAt c k) (x := (c.aj 18 k) + (c.tj 2)) (by unfold f_X4_looksAt; rw [if_neg c_8, if_pos c_67, if_pos c_93, if_pos c_147, if_pos c_155, if_pos c_173, if_neg c_240, if_neg c_250]) hW50 hF50)
                · skip
                  refine s_aloadn dX4_looksAt_254 rfl rfl ?_
                  refine s_iloadn dX4_looksAt_255 rfl rfl ?_
                  refine s_cv1G (n := 55) dX4_looksAt_256 rfl (kv hW50.mm (by decide) rfl) rfl (by decide) (by decide) (by decide) (by decide) (Nat.le_of_ble_eq_true rfl) (m_X4_ends hW50 hk) (fun r51 S51 hr51 => ?_) (fun x S2 hr => by obtain ⟨e, -⟩ := hr; cases e)
                  obtain ⟨e51, hW51, hG51⟩ := hr51
                  cases e51
                  have hF51 := hF50.tr hG51
                  refine s_lloadn dX4_looksAt_259 rfl rfl ?_
                  exact s_retl dX4_looksAt_260 rfl (NJ.of (F := f_X4_looksAt c k) (x := (c.aj 18 k) + (c.tj 2)) (by unfold f_X4_looksAt; rw [if_neg c_8, if_pos c_67, if_pos c_93, if_pos c_147, if_pos c_155, if_pos c_173, if_neg c_240, if_pos c_250]) hW51 hF51)
            · skip
              refine s_aloadn dX4_looksAt_177 rfl rfl ?_
              refine s_getR (n := 78) dX4_looksAt_178 rfl hW43.mm (fun _ _ _ => rfl) (hW43.rr 17 (by decide)).1 ?_
              refine s_iloadn dX4_looksAt_181 rfl rfl ?_
              refine s_lald' (j := k) dX4_looksAt_182 (Or.inr (Or.inl (hW43.rr 17 (by decide)).2.1)) rfl (by rw [(hW43.rr 17 (by decide)).2.2]; exact hk) (by rw [(hW43.rr 17 (by decide)).2.2]; decide) ?_
              rw [hW43.aj 17 (by decide)]
              rw [show (((((c.paj 17 k ((c.aj 17 k) + (((c.aj 17 k) * 500) / 10000))).paj 17 k (((c.aj 17 k) + (((c.aj 17 k) * 500) / 10000)) + (f_X4_flow (c.paj 17 k ((c.aj 17 k) + (((c.aj 17 k) * 500) / 10000))) k (c.ti 1)))).paj 10 k 0).paj 18 k ((c.aj 18 k) - (c.aj 18 k))).paj 17 k ((((c.aj 17 k) + (((c.aj 17 k) * 500) / 10000)) + (f_X4_flow (c.paj 17 k ((c.aj 17 k) + (((c.aj 17 k) * 500) / 10000))) k (c.ti 1))) - (c.aj 18 k))).aj 17 k = (((c.aj 17 k) + (((c.aj 17 k) * 500) / 10000)) + (f_X4_flow (c.paj 17 k ((c.aj 17 k) + (((c.aj 17 k) * 500) / 10000))) k (c.ti 1))) - (c.aj 18 k) from (by show up2 _ 17 k _ 17 k = _; exact up2_self)]
              refine s_goto (tgt := 190) dX4_looksAt_183 (by decide) ?_
              refine s_lstore dX4_looksAt_190 (by decide) ?_
              refine s_aloadn dX4_looksAt_192 rfl rfl ?_
              refine s_dup dX4_looksAt_193 rfl ?_
              refine s_get (v := .long (c.tj 2)) (n := 63) dX4_looksAt_194 rfl hW43.mm (congrArg Value.long (congrFun hW43.tj 2)) ?_
              refine s_lload dX4_looksAt_197 rfl ?_
              refine s_lsub dX4_looksAt_199 ?_
              refine s_putJ (n := 63) dX4_looksAt_200 rfl hW43.mm (Or.inl rfl) (fun _ _ _ => rfl) rfl rfl ?_
              have hW52 := hW43.ptj (k := 2) (v := (c.tj 2) - ((((c.aj 17 k) + (((c.aj 17 k) * 500) / 10000)) + (f_X4_flow (c.paj 17 k ((c.aj 17 k) + (((c.aj 17 k) * 500) / 10000))) k (c.ti 1))) - (c.aj 18 k)))
              have hF52 := hF43.uJ (a := w.mm) (k := 2) (v := (c.tj 2) - ((((c.aj 17 k) + (((c.aj 17 k) * 500) / 10000)) + (f_X4_flow (c.paj 17 k ((c.aj 17 k) + (((c.aj 17 k) * 500) / 10000))) k (c.ti 1))) - (c.aj 18 k))) (kd := 5) hW43.mm (by decide)
              refine s_aloadn dX4_looksAt_203 rfl rfl ?_
              refine s_getR (n := 78) dX4_looksAt_204 rfl hW52.mm (fun _ _ _ => rfl) (hW52.rr 17 (by decide)).1 ?_
              refine s_iloadn dX4_looksAt_207 rfl rfl ?_
              refine s_dup2 dX4_looksAt_208 rfl rfl ?_
              refine s_lald' (j := k) dX4_looksAt_209 (Or.inr (Or.inl (hW52.rr 17 (by decide)).2.1)) rfl (by rw [(hW52.rr 17 (by decide)).2.2]; exact hk) (by rw [(hW52.rr 17 (by decide)).2.2]; decide) ?_
              rw [hW52.aj 17 (by decide)]
              rw [show ((((((c.paj 17 k ((c.aj 17 k) + (((c.aj 17 k) * 500) / 10000))).paj 17 k (((c.aj 17 k) + (((c.aj 17 k) * 500) / 10000)) + (f_X4_flow (c.paj 17 k ((c.aj 17 k) + (((c.aj 17 k) * 500) / 10000))) k (c.ti 1)))).paj 10 k 0).paj 18 k ((c.aj 18 k) - (c.aj 18 k))).paj 17 k ((((c.aj 17 k) + (((c.aj 17 k) * 500) / 10000)) + (f_X4_flow (c.paj 17 k ((c.aj 17 k) + (((c.aj 17 k) * 500) / 10000))) k (c.ti 1))) - (c.aj 18 k))).ptj 2 ((c.tj 2) - ((((c.aj 17 k) + (((c.aj 17 k) * 500) / 10000)) + (f_X4_flow (c.paj 17 k ((c.aj 17 k) + (((c.aj 17 k) * 500) / 10000))) k (c.ti 1))) - (c.aj 18 k)))).aj 17 k = (((c.aj 17 k) + (((c.aj 17 k) * 500) / 10000)) + (f_X4_flow (c.paj 17 k ((c.aj 17 k) + (((c.aj 17 k) * 500) / 10000))) k (c.ti 1))) - (c.aj 18 k) from (by show up2 _ 17 k _ 17 k = _; exact up2_self)]
              refine s_lload dX4_looksAt_210 rfl ?_
              refine s_lsub dX4_looksAt_212 ?_
              refine s_last' (j := k) dX4_looksAt_213 (Or.inr (Or.inl (hW52.rr 17 (by decide)).2.1)) rfl (by rw [(hW52.rr 17 (by decide)).2.2]; exact hk) (by rw [(hW52.rr 17 (by decide)).2.2]; decide) ?_
              have hW53 := hW52.paj (f := 17) (by decide) (k := k) (v := ((((c.aj 17 k) + (((c.aj 17 k) * 500) / 10000)) + (f_X4_flow (c.paj 17 k ((c.aj 17 k) + (((c.aj 17 k) * 500) / 10000))) k (c.ti 1))) - (c.aj 18 k)) - ((((c.aj 17 k) + (((c.aj 17 k) * 500) / 10000)) + (f_X4_flow (c.paj 17 k ((c.aj 17 k) + (((c.aj 17 k) * 500) / 10000))) k (c.ti 1))) - (c.aj 18 k)))
              have hF53 := hF52.uJ (a := (w.ar 17)) (k := k) (v := ((((c.aj 17 k) + (((c.aj 17 k) * 500) / 10000)) + (f_X4_flow (c.paj 17 k ((c.aj 17 k) + (((c.aj 17 k) * 500) / 10000))) k (c.ti 1))) - (c.aj 18 k)) - ((((c.aj 17 k) + (((c.aj 17 k) * 500) / 10000)) + (f_X4_flow (c.paj 17 k ((c.aj 17 k) + (((c.aj 17 k) * 500) / 10000))) k (c.ti 1))) - (c.aj 18 k))) (kd := 10) ((hW52.rr 17 (by decide)).2.1) (by decide)
              refine s_lload dX4_looksAt_214 rfl ?_
              refine s_lload dX4_looksAt_216 rfl ?_
              refine s_ladd dX4_looksAt_218 ?_
              refine s_lstoren dX4_looksAt_219 rfl (by decide) ?_
              refine s_aloadn dX4_looksAt_220 rfl rfl ?_
              refine s_getR (n := 80) dX4_looksAt_221 rfl hW53.mm (fun _ _ _ => rfl) (hW53.rr 19 (by decide)).1 ?_
              refine s_iloadn dX4_looksAt_224 rfl rfl ?_
              refine s_dup2 dX4_looksAt_225 rfl rfl ?_
              refine s_lald' (j := k) dX4_looksAt_226 (Or.inr (Or.inl (hW53.rr 19 (by decide)).2.1)) rfl (by rw [(hW53.rr 19 (by decide)).2.2]; exact hk) (by rw [(hW53.rr 19 (by decide)).2.2]; decide) ?_
              rw [hW53.aj 19 (by decide)]
              rw [show (((((((c.paj 17 k ((c.aj 17 k) + (((c.aj 17 k) * 500) / 10000))).paj 17 k (((c.aj 17 k) + (((c.aj 17 k) * 500) / 10000)) + (f_X4_flow (c.paj 17 k ((c.aj 17 k) + (((c.aj 17 k) * 500) / 10000))) k (c.ti 1)))).paj 10 k 0).paj 18 k ((c.aj 18 k) - (c.aj 18 k))).paj 17 k ((((c.aj 17 k) + (((c.aj 17 k) * 500) / 10000)) + (f_X4_flow (c.paj 17 k ((c.aj 17 k) + (((c.aj 17 k) * 500) / 10000))) k (c.ti 1))) - (c.aj 18 k))).ptj 2 ((c.tj 2) - ((((c.aj 17 k) + (((c.aj 17 k) * 500) / 10000)) + (f_X4_flow (c.paj 17 k ((c.aj 17 k) + (((c.aj 17 k) * 500) / 10000))) k (c.ti 1))) - (c.aj 18 k)))).paj 17 k (((((c.aj 17 k) + (((c.aj 17 k) * 500) / 10000)) + (f_X4_flow (c.paj 17 k ((c.aj 17 k) + (((c.aj 17 k) * 500) / 10000))) k (c.ti 1))) - (c.aj 18 k)) - ((((c.aj 17 k) + (((c.aj 17 k) * 500) / 10000)) + (f_X4_flow (c.paj 17 k ((c.aj 17 k) + (((c.aj 17 k) * 500) / 10000))) k (c.ti 1))) - (c.aj 18 k)))).aj 19 k = (c.aj 19 k) from (rfl)]
              refine s_lloadn dX4_looksAt_227 rfl rfl ?_
              refine s_ladd dX4_looksAt_228 ?_
              refine s_last' (j := k) dX4_looksAt_229 (Or.inr (Or.inl (hW53.rr 19 (by decide)).2.1)) rfl (by rw [(hW53.rr 19 (by decide)).2.2]; exact hk) (by rw [(hW53.rr 19 (by decide)).2.2]; decide) ?_
              have hW54 := hW53.paj (f := 19) (by decide) (k := k) (v := (c.aj 19 k) + ((c.aj 18 k) + ((((c.aj 17 k) + (((c.aj 17 k) * 500) / 10000)) + (f_X4_flow (c.paj 17 k ((c.aj 17 k) + (((c.aj 17 k) * 500) / 10000))) k (c.ti 1))) - (c.aj 18 k))))
              have hF54 := hF53.uJ (a := (w.ar 19)) (k := k) (v := (c.aj 19 k) + ((c.aj 18 k) + ((((c.aj 17 k) + (((c.aj 17 k) * 500) / 10000)) + (f_X4_flow (c.paj 17 k ((c.aj 17 k) + (((c.aj 17 k) * 500) / 10000))) k (c.ti 1))) - (c.aj 18 k)))) (kd := 10) ((hW53.rr 19 (by decide)).2.1) (by decide)
              refine s_aloadn dX4_looksAt_230 rfl rfl ?_
              refine s_getR (n := 73) dX4_looksAt_231 rfl hW54.mm (fun _ _ _ => rfl) (hW54.rr 12 (by decide)).1 ?_
              refine s_iloadn dX4_looksAt_234 rfl rfl ?_
              refine s_iald' (j := k) dX4_looksAt_235 ((hW54.rr 12 (by decide)).2.1) rfl (by rw [(hW54.rr 12 (by decide)).2.2]; exact hk) (by rw [(hW54.rr 12 (by decide)).2.2]; decide) ?_
              rw [hW54.ai 12 (by decide)]
              refine s_aloadn dX4_looksAt_236 rfl rfl ?_
              refine s_get (v := .int (c.ti 1)) (n := 62) dX4_looksAt_237 rfl hW54.mm (congrArg Value.int (congrFun hW54.ti 1)) ?_
              refine s_icgt (tgt := 259) dX4_looksAt_240 (by decide) (fun c_240 => ?_) (fun c_240 => ?_)
              · skip
                refine s_lloadn dX4_looksAt_259 rfl rfl ?_
                exact s_retl dX4_looksAt_260 rfl (NJ.of (F := f_X4_looksAt c k) (x := (c.aj 18 k) + ((((c.aj 17 k) + (((c.aj 17 k) * 500) / 10000)) + (f_X4_flow (c.paj 17 k ((c.aj 17 k) + (((c.aj 17 k) * 500) / 10000))) k (c.ti 1))) - (c.aj 18 k))) (by unfold f_X4_looksAt; rw [if_neg c_8, if_pos c_67, if_pos c_93, if_pos c_147, if_pos c_155, if_neg c_173, if_pos c_240]) hW54 hF54)
              · skip
                refine s_aloadn dX4_looksAt_243 rfl rfl ?_
                refine s_getR (n := 78) dX4_looksAt_244 rfl hW54.mm (fun _ _ _ => rfl) (hW54.rr 17 (by decide)).1 ?_
                refine s_iloadn dX4_looksAt_247 rfl rfl ?_
                refine s_lald' (j := k) dX4_looksAt_248 (Or.inr (Or.inl (hW54.rr 17 (by decide)).2.1)) rfl (by rw [(hW54.rr 17 (by decide)).2.2]; exact hk) (by rw [(hW54.rr 17 (by decide)).2.2]; decide) ?_
                rw [hW54.aj 17 (by decide)]
                rw [show ((((((((c.paj 17 k ((c.aj 17 k) + (((c.aj 17 k) * 500) / 10000))).paj 17 k (((c.aj 17 k) + (((c.aj 17 k) * 500) / 10000)) + (f_X4_flow (c.paj 17 k ((c.aj 17 k) + (((c.aj 17 k) * 500) / 10000))) k (c.ti 1)))).paj 10 k 0).paj 18 k ((c.aj 18 k) - (c.aj 18 k))).paj 17 k ((((c.aj 17 k) + (((c.aj 17 k) * 500) / 10000)) + (f_X4_flow (c.paj 17 k ((c.aj 17 k) + (((c.aj 17 k) * 500) / 10000))) k (c.ti 1))) - (c.aj 18 k))).ptj 2 ((c.tj 2) - ((((c.aj 17 k) + (((c.aj 17 k) * 500) / 10000)) + (f_X4_flow (c.paj 17 k ((c.aj 17 k) + (((c.aj 17 k) * 500) / 10000))) k (c.ti 1))) - (c.aj 18 k)))).paj 17 k (((((c.aj 17 k) + (((c.aj 17 k) * 500) / 10000)) + (f_X4_flow (c.paj 17 k ((c.aj 17 k) + (((c.aj 17 k) * 500) / 10000))) k (c.ti 1))) - (c.aj 18 k)) - ((((c.aj 17 k) + (((c.aj 17 k) * 500) / 10000)) + (f_X4_flow (c.paj 17 k ((c.aj 17 k) + (((c.aj 17 k) * 500) / 10000))) k (c.ti 1))) - (c.aj 18 k)))).paj 19 k ((c.aj 19 k) + ((c.aj 18 k) + ((((c.aj 17 k) + (((c.aj 17 k) * 500) / 10000)) + (f_X4_flow (c.paj 17 k ((c.aj 17 k) + (((c.aj 17 k) * 500) / 10000))) k (c.ti 1))) - (c.aj 18 k))))).aj 17 k = ((((c.aj 17 k) + (((c.aj 17 k) * 500) / 10000)) + (f_X4_flow (c.paj 17 k ((c.aj 17 k) + (((c.aj 17 k) * 500) / 10000))) k (c.ti 1))) - (c.aj 18 k)) - ((((c.aj 17 k) + (((c.aj 17 k) * 500) / 10000)) + (f_X4_flow (c.paj 17 k ((c.aj 17 k) + (((c.aj 17 k) * 500) / 10000))) k (c.ti 1))) - (c.aj 18 k)) from (by show up2 _ 17 k _ 17 k = _; exact up2_self)]
                refine s_lconst (v := 0) dX4_looksAt_249 (by decide) ?_
                refine s_lcne (tgt := 259) dX4_looksAt_250 dX4_looksAt_251 (by decide) (fun c_250 => ?_) (fun c_250 => ?_)
                · skip
                  refine s_lloadn dX4_looksAt_259 rfl rfl ?_
                  exact s_retl dX4_looksAt_260 rfl (NJ.of (F := f_X4_looksAt c k) (x := (c.aj 18 k) + ((((c.aj 17 k) + (((c.aj 17 k) * 500) / 10000)) + (f_X4_flow (c.paj 17 k ((c.aj 17 k) + (((c.aj 17 k) * 500) / 10000))) k (c.ti 1))) - (c.aj 18 k))) (by unfold f_X4_looksAt; rw [if_neg c_8, if_pos c_67, if_pos c_93, if_pos c_147, if_pos c_155, if_neg c_173, if_neg c_240, if_neg c_250]) hW54 hF54)
                · skip
                  refine s_aloadn dX4_looksAt_254 rfl rfl ?_
                  refine s_iloadn dX4_looksAt_255 rfl rfl ?_
                  refine s_cv1G (n := 55) dX4_looksAt_256 rfl (kv hW54.mm (by decide) rfl) rfl (by decide) (by decide) (by decide) (by decide) (Nat.le_of_ble_eq_true rfl) (m_X4_ends hW54 hk) (fun r55 S55 hr55 => ?_) (fun x S2 hr => by obtain ⟨e, -⟩ := hr; cases e)
                  obtain ⟨e55, hW55, hG55⟩ := hr55
                  cases e55
                  have hF55 := hF54.tr hG55
                  refine s_lloadn dX4_looksAt_259 rfl rfl ?_
                  exact s_retl dX4_looksAt_260 rfl (NJ.of (F := f_X4_looksAt c k) (x := (c.aj 18 k) + ((((c.aj 17 k) + (((c.aj 17 k) * 500) / 10000)) + (f_X4_flow (c.paj 17 k ((c.aj 17 k) + (((c.aj 17 k) * 500) / 10000))) k (c.ti 1))) - (c.aj 18 k))) (by unfold f_X4_looksAt; rw [if_neg c_8, if_pos c_67, if_pos c_93, if_pos c_147, if_pos c_155, if_neg c_173, if_neg c_240, if_pos c_250]) hW55 hF55)
          · skip
            refine s_lconst (v := 0) dX4_looksAt_159 (by decide) ?_
            refine s_goto (tgt := 190) dX4_looksAt_160 (by decide) ?_
            refine s_lstore dX4_looksAt_190 (by decide) ?_
            refine s_aloadn dX4_looksAt_192 rfl rfl ?_
            refine s_dup dX4_looksAt_193 rfl ?_
            refine s_get (v := .long (c.tj 2)) (n := 63) dX4_looksAt_194 rfl hW43.mm (congrArg Value.long (congrFun hW43.tj 2)) ?_
            refine s_lload dX4_looksAt_197 rfl ?_
            refine s_lsub dX4_looksAt_199 ?_
            refine s_putJ (n := 63) dX4_looksAt_200 rfl hW43.mm (Or.inl rfl) (fun _ _ _ => rfl) rfl rfl ?_
            have hW56 := hW43.ptj (k := 2) (v := (c.tj 2) - 0)
            have hF56 := hF43.uJ (a := w.mm) (k := 2) (v := (c.tj 2) - 0) (kd := 5) hW43.mm (by decide)
            refine s_aloadn dX4_looksAt_203 rfl rfl ?_
            refine s_getR (n := 78) dX4_looksAt_204 rfl hW56.mm (fun _ _ _ => rfl) (hW56.rr 17 (by decide)).1 ?_
            refine s_iloadn dX4_looksAt_207 rfl rfl ?_
            refine s_dup2 dX4_looksAt_208 rfl rfl ?_
            refine s_lald' (j := k) dX4_looksAt_209 (Or.inr (Or.inl (hW56.rr 17 (by decide)).2.1)) rfl (by rw [(hW56.rr 17 (by decide)).2.2]; exact hk) (by rw [(hW56.rr 17 (by decide)).2.2]; decide) ?_
            rw [hW56.aj 17 (by decide)]
            rw [show ((((((c.paj 17 k ((c.aj 17 k) + (((c.aj 17 k) * 500) / 10000))).paj 17 k (((c.aj 17 k) + (((c.aj 17 k) * 500) / 10000)) + (f_X4_flow (c.paj 17 k ((c.aj 17 k) + (((c.aj 17 k) * 500) / 10000))) k (c.ti 1)))).paj 10 k 0).paj 18 k ((c.aj 18 k) - (c.aj 18 k))).paj 17 k ((((c.aj 17 k) + (((c.aj 17 k) * 500) / 10000)) + (f_X4_flow (c.paj 17 k ((c.aj 17 k) + (((c.aj 17 k) * 500) / 10000))) k (c.ti 1))) - (c.aj 18 k))).ptj 2 ((c.tj 2) - 0)).aj 17 k = (((c.aj 17 k) + (((c.aj 17 k) * 500) / 10000)) + (f_X4_flow (c.paj 17 k ((c.aj 17 k) + (((c.aj 17 k) * 500) / 10000))) k (c.ti 1))) - (c.aj 18 k) from (by show up2 _ 17 k _ 17 k = _; exact up2_self)]
            refine s_lload dX4_looksAt_210 rfl ?_
            refine s_lsub dX4_looksAt_212 ?_
            refine s_last' (j := k) dX4_looksAt_213 (Or.inr (Or.inl (hW56.rr 17 (by decide)).2.1)) rfl (by rw [(hW56.rr 17 (by decide)).2.2]; exact hk) (by rw [(hW56.rr 17 (by decide)).2.2]; decide) ?_
            have hW57 := hW56.paj (f := 17) (by decide) (k := k) (v := ((((c.aj 17 k) + (((c.aj 17 k) * 500) / 10000)) + (f_X4_flow (c.paj 17 k ((c.aj 17 k) + (((c.aj 17 k) * 500) / 10000))) k (c.ti 1))) - (c.aj 18 k)) - 0)
            have hF57 := hF56.uJ (a := (w.ar 17)) (k := k) (v := ((((c.aj 17 k) + (((c.aj 17 k) * 500) / 10000)) + (f_X4_flow (c.paj 17 k ((c.aj 17 k) + (((c.aj 17 k) * 500) / 10000))) k (c.ti 1))) - (c.aj 18 k)) - 0) (kd := 10) ((hW56.rr 17 (by decide)).2.1) (by decide)
            refine s_lload dX4_looksAt_214 rfl ?_
            refine s_lload dX4_looksAt_216 rfl ?_
            refine s_ladd dX4_looksAt_218 ?_
            refine s_lstoren dX4_looksAt_219 rfl (by decide) ?_
            refine s_aloadn dX4_looksAt_220 rfl rfl ?_
            refine s_getR (n := 80) dX4_looksAt_221 rfl hW57.mm (fun _ _ _ => rfl) (hW57.rr 19 (by decide)).1 ?_
            refine s_iloadn dX4_looksAt_224 rfl rfl ?_
            refine s_dup2 dX4_looksAt_225 rfl rfl ?_
            refine s_lald' (j := k) dX4_looksAt_226 (Or.inr (Or.inl (hW57.rr 19 (by decide)).2.1)) rfl (by rw [(hW57.rr 19 (by decide)).2.2]; exact hk) (by rw [(hW57.rr 19 (by decide)).2.2]; decide) ?_
            rw [hW57.aj 19 (by decide)]
            rw [show (((((((c.paj 17 k ((c.aj 17 k) + (((c.aj 17 k) * 500) / 10000))).paj 17 k (((c.aj 17 k) + (((c.aj 17 k) * 500) / 10000)) + (f_X4_flow (c.paj 17 k ((c.aj 17 k) + (((c.aj 17 k) * 500) / 10000))) k (c.ti 1)))).paj 10 k 0).paj 18 k ((c.aj 18 k) - (c.aj 18 k))).paj 17 k ((((c.aj 17 k) + (((c.aj 17 k) * 500) / 10000)) + (f_X4_flow (c.paj 17 k ((c.aj 17 k) + (((c.aj 17 k) * 500) / 10000))) k (c.ti 1))) - (c.aj 18 k))).ptj 2 ((c.tj 2) - 0)).paj 17 k (((((c.aj 17 k) + (((c.aj 17 k) * 500) / 10000)) + (f_X4_flow (c.paj 17 k ((c.aj 17 k) + (((c.aj 17 k) * 500) / 10000))) k (c.ti 1))) - (c.aj 18 k)) - 0)).aj 19 k = (c.aj 19 k) from (rfl)]
            refine s_lloadn dX4_looksAt_227 rfl rfl ?_
            refine s_ladd dX4_looksAt_228 ?_
            refine s_last' (j := k) dX4_looksAt_229 (Or.inr (Or.inl (hW57.rr 19 (by decide)).2.1)) rfl (by rw [(hW57.rr 19 (by decide)).2.2]; exact hk) (by rw [(hW57.rr 19 (by decide)).2.2]; decide) ?_
            have hW58 := hW57.paj (f := 19) (by decide) (k := k) (v := (c.aj 19 k) + ((c.aj 18 k) + 0))
            have hF58 := hF57.uJ (a := (w.ar 19)) (k := k) (v := (c.aj 19 k) + ((c.aj 18 k) + 0)) (kd := 10) ((hW57.rr 19 (by decide)).2.1) (by decide)
            refine s_aloadn dX4_looksAt_230 rfl rfl ?_
            refine s_getR (n := 73) dX4_looksAt_231 rfl hW58.mm (fun _ _ _ => rfl) (hW58.rr 12 (by decide)).1 ?_
            refine s_iloadn dX4_looksAt_234 rfl rfl ?_
            refine s_iald' (j := k) dX4_looksAt_235 ((hW58.rr 12 (by decide)).2.1) rfl (by rw [(hW58.rr 12 (by decide)).2.2]; exact hk) (by rw [(hW58.rr 12 (by decide)).2.2]; decide) ?_
            rw [hW58.ai 12 (by decide)]
            refine s_aloadn dX4_looksAt_236 rfl rfl ?_
            refine s_get (v := .int (c.ti 1)) (n := 62) dX4_looksAt_237 rfl hW58.mm (congrArg Value.int (congrFun hW58.ti 1)) ?_
            refine s_icgt (tgt := 259) dX4_looksAt_240 (by decide) (fun c_240 => ?_) (fun c_240 => ?_)
            · skip
              refine s_lloadn dX4_looksAt_259 rfl rfl ?_
              exact s_retl dX4_looksAt_260 rfl (NJ.of (F := f_X4_looksAt c k) (x := (c.aj 18 k) + 0) (by unfold f_X4_looksAt; rw [if_neg c_8, if_pos c_67, if_pos c_93, if_pos c_147, if_neg c_155, if_pos c_240]) hW58 hF58)
            · skip
              refine s_aloadn dX4_looksAt_243 rfl rfl ?_
              refine s_getR (n := 78) dX4_looksAt_244 rfl hW58.mm (fun _ _ _ => rfl) (hW58.rr 17 (by decide)).1 ?_
              refine s_iloadn dX4_looksAt_247 rfl rfl ?_
              refine s_lald' (j := k) dX4_looksAt_248 (Or.inr (Or.inl (hW58.rr 17 (by decide)).2.1)) rfl (by rw [(hW58.rr 17 (by decide)).2.2]; exact hk) (by rw [(hW58.rr 17 (by decide)).2.2]; decide) ?_
              rw [hW58.aj 17 (by decide)]
              rw [show ((((((((c.paj 17 k ((c.aj 17 k) + (((c.aj 17 k) * 500) / 10000))).paj 17 k (((c.aj 17 k) + (((c.aj 17 k) * 500) / 10000)) + (f_X4_flow (c.paj 17 k ((c.aj 17 k) + (((c.aj 17 k) * 500) / 10000))) k (c.ti 1)))).paj 10 k 0).paj 18 k ((c.aj 18 k) - (c.aj 18 k))).paj 17 k ((((c.aj 17 k) + (((c.aj 17 k) * 500) / 10000)) + (f_X4_flow (c.paj 17 k ((c.aj 17 k) + (((c.aj 17 k) * 500) / 10000))) k (c.ti 1))) - (c.aj 18 k))).ptj 2 ((c.tj 2) - 0)).paj 17 k (((((c.aj 17 k) + (((c.aj 17 k) * 500) / 10000)) + (f_X4_flow (c.paj 17 k ((c.aj 17 k) + (((c.aj 17 k) * 500) / 10000))) k (c.ti 1))) - (c.aj 18 k)) - 0)).paj 19 k ((c.aj 19 k) + ((c.aj 18 k) + 0))).aj 17 k = ((((c.aj 17 k) + (((c.aj 17 k) * 500) / 10000)) + (f_X4_flow (c.paj 17 k ((c.aj 17 k) + (((c.aj 17 k) * 500) / 10000))) k (c.ti 1))) - (c.aj 18 k)) - 0 from (by show up2 _ 17 k _ 17 k = _; exact up2_self)]
              refine s_lconst (v := 0) dX4_looksAt_249 (by decide) ?_
              refine s_lcne (tgt := 259) dX4_looksAt_250 dX4_looksAt_251 (by decide) (fun c_250 => ?_) (fun c_250 => ?_)
              · skip
                refine s_lloadn dX4_looksAt_259 rfl rfl ?_
                exact s_retl dX4_looksAt_260 rfl (NJ.of (F := f_X4_looksAt c k) (x := (c.aj 18 k) + 0) (by unfold f_X4_looksAt; rw [if_neg c_8, if_pos c_67, if_pos c_93, if_pos c_147, if_neg c_155, if_neg c_240, if_neg c_250]) hW58 hF58)
              · skip
                refine s_aloadn dX4_looksAt_254 rfl rfl ?_
                refine s_iloadn dX4_looksAt_255 rfl rfl ?_
                refine s_cv1G (n := 55) dX4_looksAt_256 rfl (kv hW58.mm (by decide) rfl) rfl (by decide) (by decide) (by decide) (by decide) (Nat.le_of_ble_eq_true rfl) (m_X4_ends hW58 hk) (fun r59 S59 hr59 => ?_) (fun x S2 hr => by obtain ⟨e, -⟩ := hr; cases e)
                obtain ⟨e59, hW59, hG59⟩ := hr59
                cases e59
                have hF59 := hF58.tr hG59
                refine s_lloadn dX4_looksAt_259 rfl rfl ?_
                exact s_retl dX4_looksAt_260 rfl (NJ.of (F := f_X4_looksAt c k) (x := (c.aj 18 k) + 0) (by unfold f_X4_looksAt; rw [if_neg c_8, if_pos c_67, if_pos c_93, if_pos c_147, if_neg c_155, if_neg c_240, if_pos c_250]) hW59 hF59)
      · skip
        refine s_aloadn dX4_looksAt_97 rfl rfl ?_
        refine s_getR (n := 78) dX4_looksAt_98 rfl hW41.mm (fun _ _ _ => rfl) (hW41.rr 17 (by decide)).1 ?_
        refine s_iloadn dX4_looksAt_101 rfl rfl ?_
        refine s_lald' (j := k) dX4_looksAt_102 (Or.inr (Or.inl (hW41.rr 17 (by decide)).2.1)) rfl (by rw [(hW41.rr 17 (by decide)).2.2]; exact hk) (by rw [(hW41.rr 17 (by decide)).2.2]; decide) ?_
        rw [hW41.aj 17 (by decide)]
        rw [show (((c.paj 17 k ((c.aj 17 k) + (((c.aj 17 k) * 500) / 10000))).paj 17 k (((c.aj 17 k) + (((c.aj 17 k) * 500) / 10000)) + (f_X4_flow (c.paj 17 k ((c.aj 17 k) + (((c.aj 17 k) * 500) / 10000))) k (c.ti 1)))).paj 10 k 0).aj 17 k = ((c.aj 17 k) + (((c.aj 17 k) * 500) / 10000)) + (f_X4_flow (c.paj 17 k ((c.aj 17 k) + (((c.aj 17 k) * 500) / 10000))) k (c.ti 1)) from (by show up2 _ 17 k _ 17 k = _; exact up2_self)]
        refine s_goto (tgt := 112) dX4_looksAt_103 (by decide) ?_
        refine s_lstore dX4_looksAt_112 (by decide) ?_
        refine s_aloadn dX4_looksAt_114 rfl rfl ?_
        refine s_getR (n := 79) dX4_looksAt_115 rfl hW41.mm (fun _ _ _ => rfl) (hW41.rr 18 (by decide)).1 ?_
        refine s_iloadn dX4_looksAt_118 rfl rfl ?_
        refine s_dup2 dX4_looksAt_119 rfl rfl ?_
        refine s_lald' (j := k) dX4_looksAt_120 (Or.inr (Or.inl (hW41.rr 18 (by decide)).2.1)) rfl (by rw [(hW41.rr 18 (by decide)).2.2]; exact hk) (by rw [(hW41.rr 18 (by decide)).2.2]; decide) ?_
        rw [hW41.aj 18 (by decide)]
        rw [show (((c.paj 17 k ((c.aj 17 k) + (((c.aj 17 k) * 500) / 10000))).paj 17 k (((c.aj 17 k) + (((c.aj 17 k) * 500) / 10000)) + (f_X4_flow (c.paj 17 k ((c.aj 17 k) + (((c.aj 17 k) * 500) / 10000))) k (c.ti 1)))).paj 10 k 0).aj 18 k = (c.aj 18 k) from (rfl)]
        refine s_lload dX4_looksAt_121 rfl ?_
        refine s_lsub dX4_looksAt_123 ?_
        refine s_last' (j := k) dX4_looksAt_124 (Or.inr (Or.inl (hW41.rr 18 (by decide)).2.1)) rfl (by rw [(hW41.rr 18 (by decide)).2.2]; exact hk) (by rw [(hW41.rr 18 (by decide)).2.2]; decide) ?_
        have hW60 := hW41.paj (f := 18) (by decide) (k := k) (v := (c.aj 18 k) - (((c.aj 17 k) + (((c.aj 17 k) * 500) / 10000)) + (f_X4_flow (c.paj 17 k ((c.aj 17 k) + (((c.aj 17 k) * 500) / 10000))) k (c.ti 1))))
        have hF60 := hF41.uJ (a := (w.ar 18)) (k := k) (v := (c.aj 18 k) - (((c.aj 17 k) + (((c.aj 17 k) * 500) / 10000)) + (f_X4_flow (c.paj 17 k ((c.aj 17 k) + (((c.aj 17 k) * 500) / 10000))) k (c.ti 1)))) (kd := 10) ((hW41.rr 18 (by decide)).2.1) (by decide)
        refine s_aloadn dX4_looksAt_125 rfl rfl ?_
        refine s_getR (n := 78) dX4_looksAt_126 rfl hW60.mm (fun _ _ _ => rfl) (hW60.rr 17 (by decide)).1 ?_
        refine s_iloadn dX4_looksAt_129 rfl rfl ?_
        refine s_dup2 dX4_looksAt_130 rfl rfl ?_
        refine s_lald' (j := k) dX4_looksAt_131 (Or.inr (Or.inl (hW60.rr 17 (by decide)).2.1)) rfl (by rw [(hW60.rr 17 (by decide)).2.2]; exact hk) (by rw [(hW60.rr 17 (by decide)).2.2]; decide) ?_
        rw [hW60.aj 17 (by decide)]
        rw [show ((((c.paj 17 k ((c.aj 17 k) + (((c.aj 17 k) * 500) / 10000))).paj 17 k (((c.aj 17 k) + (((c.aj 17 k) * 500) / 10000)) + (f_X4_flow (c.paj 17 k ((c.aj 17 k) + (((c.aj 17 k) * 500) / 10000))) k (c.ti 1)))).paj 10 k 0).paj 18 k ((c.aj 18 k) - (((c.aj 17 k) + (((c.aj 17 k) * 500) / 10000)) + (f_X4_flow (c.paj 17 k ((c.aj 17 k) + (((c.aj 17 k) * 500) / 10000))) k (c.ti 1))))).aj 17 k = ((c.aj 17 k) + (((c.aj 17 k) * 500) / 10000)) + (f_X4_flow (c.paj 17 k ((c.aj 17 k) + (((c.aj 17 k) * 500) / 10000))) k (c.ti 1)) from (by show up2 _ 17 k _ 17 k = _; exact up2_self)]
        refine s_lload dX4_looksAt_132 rfl ?_
        refine s_lsub dX4_looksAt_134 ?_
        refine s_last' (j := k) dX4_looksAt_135 (Or.inr (Or.inl (hW60.rr 17 (by decide)).2.1)) rfl (by rw [(hW60.rr 17 (by decide)).2.2]; exact hk) (by rw [(hW60.rr 17 (by decide)).2.2]; decide) ?_
        have hW61 := hW60.paj (f := 17) (by decide) (k := k) (v := (((c.aj 17 k) + (((c.aj 17 k) * 500) / 10000)) + (f_X4_flow (c.paj 17 k ((c.aj 17 k) + (((c.aj 17 k) * 500) / 10000))) k (c.ti 1))) - (((c.aj 17 k) + (((c.aj 17 k) * 500) / 10000)) + (f_X4_flow (c.paj 17 k ((c.aj 17 k) + (((c.aj 17 k) * 500) / 10000))) k (c.ti 1))))
        have hF61 := hF60.uJ (a := (w.ar 17)) (k := k) (v := (((c.aj 17 k) + (((c.aj 17 k) * 500) / 10000)) + (f_X4_flow (c.paj 17 k ((c.aj 17 k) + (((c.aj 17 k) * 500) / 10000))) k (c.ti 1))) - (((c.aj 17 k) + (((c.aj 17 k) * 500) / 10000)) + (f_X4_flow (c.paj 17 k ((c.aj 17 k) + (((c.aj 17 k) * 500) / 10000))) k (c.ti 1)))) (kd := 10) ((hW60.rr 17 (by decide)).2.1) (by decide)
        refine s_aloadn dX4_looksAt_136 rfl rfl ?_
        refine s_getR (n := 83) dX4_looksAt_137 rfl hW61.mm (fun _ _ _ => rfl) (hW61.rr 22 (by decide)).1 ?_
        refine s_aloadn dX4_looksAt_140 rfl rfl ?_
        refine s_getR (n := 69) dX4_looksAt_141 rfl hW61.mm (fun _ _ _ => rfl) (hW61.rr 8 (by decide)).1 ?_
        refine s_iloadn dX4_looksAt_144 rfl rfl ?_
        refine s_iald' (j := k) dX4_looksAt_145 ((hW61.rr 8 (by decide)).2.1) rfl (by rw [(hW61.rr 8 (by decide)).2.2]; exact hk) (by rw [(hW61.rr 8 (by decide)).2.2]; decide) ?_
        rw [hW61.ai 8 (by decide)]
        refine s_zald' (j := (ix (c.ai 8 k))) dX4_looksAt_146 ((hW61.rr 22 (by decide)).2.1) (ix_nI hK.1).symm (by rw [(hW61.rr 22 (by decide)).2.2]; exact (ix_of hK.1 hK.2 (by decide))) (by rw [(hW61.rr 22 (by decide)).2.2]; decide) ?_
        rw [hW61.ai 22 (by decide)]
        refine s_ifne (tgt := 159) dX4_looksAt_147 (by decide) (fun c_147 => ?_) (fun c_147 => ?_)
        · skip
          refine s_lconst (v := 0) dX4_looksAt_159 (by decide) ?_
          refine s_goto (tgt := 190) dX4_looksAt_160 (by decide) ?_
          refine s_lstore dX4_looksAt_190 (by decide) ?_
          refine s_aloadn dX4_looksAt_192 rfl rfl ?_
          refine s_dup dX4_looksAt_193 rfl ?_
          refine s_get (v := .long (c.tj 2)) (n := 63) dX4_looksAt_194 rfl hW61.mm (congrArg Value.long (congrFun hW61.tj 2)) ?_
          refine s_lload dX4_looksAt_197 rfl ?_
          refine s_lsub dX4_looksAt_199 ?_
          refine s_putJ (n := 63) dX4_looksAt_200 rfl hW61.mm (Or.inl rfl) (fun _ _ _ => rfl) rfl rfl ?_
          have hW62 := hW61.ptj (k := 2) (v := (c.tj 2) - 0)
          have hF62 := hF61.uJ (a := w.mm) (k := 2) (v := (c.tj 2) - 0) (kd := 5) hW61.mm (by decide)
          refine s_aloadn dX4_looksAt_203 rfl rfl ?_
          refine s_getR (n := 78) dX4_looksAt_204 rfl hW62.mm (fun _ _ _ => rfl) (hW62.rr 17 (by decide)).1 ?_
          refine s_iloadn dX4_looksAt_207 rfl rfl ?_
          refine s_dup2 dX4_looksAt_208 rfl rfl ?_
          refine s_lald' (j := k) dX4_looksAt_209 (Or.inr (Or.inl (hW62.rr 17 (by decide)).2.1)) rfl (by rw [(hW62.rr 17 (by decide)).2.2]; exact hk) (by rw [(hW62.rr 17 (by decide)).2.2]; decide) ?_
          rw [hW62.aj 17 (by decide)]
          rw [show ((((((c.paj 17 k ((c.aj 17 k) + (((c.aj 17 k) * 500) / 10000))).paj 17 k (((c.aj 17 k) + (((c.aj 17 k) * 500) / 10000)) + (f_X4_flow (c.paj 17 k ((c.aj 17 k) + (((c.aj 17 k) * 500) / 10000))) k (c.ti 1)))).paj 10 k 0).paj 18 k ((c.aj 18 k) - (((c.aj 17 k) + (((c.aj 17 k) * 500) / 10000)) + (f_X4_flow (c.paj 17 k ((c.aj 17 k) + (((c.aj 17 k) * 500) / 10000))) k (c.ti 1))))).paj 17 k ((((c.aj 17 k) + (((c.aj 17 k) * 500) / 10000)) + (f_X4_flow (c.paj 17 k ((c.aj 17 k) + (((c.aj 17 k) * 500) / 10000))) k (c.ti 1))) - (((c.aj 17 k) + (((c.aj 17 k) * 500) / 10000)) + (f_X4_flow (c.paj 17 k ((c.aj 17 k) + (((c.aj 17 k) * 500) / 10000))) k (c.ti 1))))).ptj 2 ((c.tj 2) - 0)).aj 17 k = (((c.aj 17 k) + (((c.aj 17 k) * 500) / 10000)) + (f_X4_flow (c.paj 17 k ((c.aj 17 k) + (((c.aj 17 k) * 500) / 10000))) k (c.ti 1))) - (((c.aj 17 k) + (((c.aj 17 k) * 500) / 10000)) + (f_X4_flow (c.paj 17 k ((c.aj 17 k) + (((c.aj 17 k) * 500) / 10000))) k (c.ti 1))) from (by show up2 _ 17 k _ 17 k = _; exact up2_self)]
          refine s_lload dX4_looksAt_210 rfl ?_
          refine s_lsub dX4_looksAt_212 ?_
          refine s_last' (j := k) dX4_looksAt_213 (Or.inr (Or.inl (hW62.rr 17 (by decide)).2.1)) rfl (by rw [(hW62.rr 17 (by decide)).2.2]; exact hk) (by rw [(hW62.rr 17 (by decide)).2.2]; decide) ?_
          have hW63 := hW62.paj (f := 17) (by decide) (k := k) (v := ((((c.aj 17 k) + (((c.aj 17 k) * 500) / 10000)) + (f_X4_flow (c.paj 17 k ((c.aj 17 k) + (((c.aj 17 k) * 500) / 10000))) k (c.ti 1))) - (((c.aj 17 k) + (((c.aj 17 k) * 500) / 10000)) + (f_X4_flow (c.paj 17 k ((c.aj 17 k) + (((c.aj 17 k) * 500) / 10000))) k (c.ti 1)))) - 0)
          have hF63 := hF62.uJ (a := (w.ar 17)) (k := k) (v := ((((c.aj 17 k) + (((c.aj 17 k) * 500) / 10000)) + (f_X4_flow (c.paj 17 k ((c.aj 17 k) + (((c.aj 17 k) * 500) / 10000))) k (c.ti 1))) - (((c.aj 17 k) + (((c.aj 17 k) * 500) / 10000)) + (f_X4_flow (c.paj 17 k ((c.aj 17 k) + (((c.aj 17 k) * 500) / 10000))) k (c.ti 1)))) - 0) (kd := 10) ((hW62.rr 17 (by decide)).2.1) (by decide)
          refine s_lload dX4_looksAt_214 rfl ?_
          refine s_lload dX4_looksAt_216 rfl ?_
          refine s_ladd dX4_looksAt_218 ?_
          refine s_lstoren dX4_looksAt_219 rfl (by decide) ?_
          refine s_aloadn dX4_looksAt_220 rfl rfl ?_
          refine s_getR (n := 80) dX4_looksAt_221 rfl hW63.mm (fun _ _ _ => rfl) (hW63.rr 19 (by decide)).1 ?_
          refine s_iloadn dX4_looksAt_224 rfl rfl ?_
          refine s_dup2 dX4_looksAt_225 rfl rfl ?_
          refine s_lald' (j := k) dX4_looksAt_226 (Or.inr (Or.inl (hW63.rr 19 (by decide)).2.1)) rfl (by rw [(hW63.rr 19 (by decide)).2.2]; exact hk) (by rw [(hW63.rr 19 (by decide)).2.2]; decide) ?_
          rw [hW63.aj 19 (by decide)]
          rw [show (((((((c.paj 17 k ((c.aj 17 k) + (((c.aj 17 k) * 500) / 10000))).paj 17 k (((c.aj 17 k) + (((c.aj 17 k) * 500) / 10000)) + (f_X4_flow (c.paj 17 k ((c.aj 17 k) + (((c.aj 17 k) * 500) / 10000))) k (c.ti 1)))).paj 10 k 0).paj 18 k ((c.aj 18 k) - (((c.aj 17 k) + (((c.aj 17 k) * 500) / 10000)) + (f_X4_flow (c.paj 17 k ((c.aj 17 k) + (((c.aj 17 k) * 500) / 10000))) k (c.ti 1))))).paj 17 k ((((c.aj 17 k) + (((c.aj 17 k) * 500) / 10000)) + (f_X4_flow (c.paj 17 k ((c.aj 17 k) + (((c.aj 17 k) * 500) / 10000))) k (c.ti 1))) - (((c.aj 17 k) + (((c.aj 17 k) * 500) / 10000)) + (f_X4_flow (c.paj 17 k ((c.aj 17 k) + (((c.aj 17 k) * 500) / 10000))) k (c.ti 1))))).ptj 2 ((c.tj 2) - 0)).paj 17 k (((((c.aj 17 k) + (((c.aj 17 k) * 500) / 10000)) + (f_X4_flow (c.paj 17 k ((c.aj 17 k) + (((c.aj 17 k) * 500) / 10000))) k (c.ti 1))) - (((c.aj 17 k) + (((c.aj 17 k) * 500) / 10000)) + (f_X4_flow (c.paj 17 k ((c.aj 17 k) + (((c.aj 17 k) * 500) / 10000))) k (c.ti 1)))) - 0)).aj 19 k = (c.aj 19 k) from (rfl)]
          refine s_lloadn dX4_looksAt_227 rfl rfl ?_
          refine s_ladd dX4_looksAt_228 ?_
          refine s_last' (j := k) dX4_looksAt_229 (Or.inr (Or.inl (hW63.rr 19 (by decide)).2.1)) rfl (by rw [(hW63.rr 19 (by decide)).2.2]; exact hk) (by rw [(hW63.rr 19 (by decide)).2.2]; decide) ?_
          have hW64 := hW63.paj (f := 19) (by decide) (k := k) (v := (c.aj 19 k) + ((((c.aj 17 k) + (((c.aj 17 k) * 500) / 10000)) + (f_X4_flow (c.paj 17 k ((c.aj 17 k) + (((c.aj 17 k) * 500) / 10000))) k (c.ti 1))) + 0))
          have hF64 := hF63.uJ (a := (w.ar 19)) (k := k) (v := (c.aj 19 k) + ((((c.aj 17 k) + (((c.aj 17 k) * 500) / 10000)) + (f_X4_flow (c.paj 17 k ((c.aj 17 k) + (((c.aj 17 k) * 500) / 10000))) k (c.ti 1))) + 0)) (kd := 10) ((hW63.rr 19 (by decide)).2.1) (by decide)
          refine s_aloadn dX4_looksAt_230 rfl rfl ?_
          refine s_getR (n := 73) dX4_looksAt_231 rfl hW64.mm (fun _ _ _ => rfl) (hW64.rr 12 (by decide)).1 ?_
          refine s_iloadn dX4_looksAt_234 rfl rfl ?_
          refine s_iald' (j := k) dX4_looksAt_235 ((hW64.rr 12 (by decide)).2.1) rfl (by rw [(hW64.rr 12 (by decide)).2.2]; exact hk) (by rw [(hW64.rr 12 (by decide)).2.2]; decide) ?_
          rw [hW64.ai 12 (by decide)]
          refine s_aloadn dX4_looksAt_236 rfl rfl ?_
          refine s_get (v := .int (c.ti 1)) (n := 62) dX4_looksAt_237 rfl hW64.mm (congrArg Value.int (congrFun hW64.ti 1)) ?_
          refine s_icgt (tgt := 259) dX4_looksAt_240 (by decide) (fun c_240 => ?_) (fun c_240 => ?_)
          · skip
            refine s_lloadn dX4_looksAt_259 rfl rfl ?_
            exact s_retl dX4_looksAt_260 rfl (NJ.of (F := f_X4_looksAt c k) (x := (((c.aj 17 k) + (((c.aj 17 k) * 500) / 10000)) + (f_X4_flow (c.paj 17 k ((c.aj 17 k) + (((c.aj 17 k) * 500) / 10000))) k (c.ti 1))) + 0) (by unfold f_X4_looksAt; rw [if_neg c_8, if_pos c_67, if_neg c_93, if_neg c_147, if_pos c_240]) hW64 hF64)
          · skip
            refine s_aloadn dX4_looksAt_243 rfl rfl ?_
            refine s_getR (n := 78) dX4_looksAt_244 rfl hW64.mm (fun _ _ _ => rfl) (hW64.rr 17 (by decide)).1 ?_
            refine s_iloadn dX4_looksAt_247 rfl rfl ?_
            refine s_lald' (j := k) dX4_looksAt_248 (Or.inr (Or.inl (hW64.rr 17 (by decide)).2.1)) rfl (by rw [(hW64.rr 17 (by decide)).2.2]; exact hk) (by rw [(hW64.rr 17 (by decide)).2.2]; decide) ?_
            rw [hW64.aj 17 (by decide)]
            rw [show ((((((((c.paj 17 k ((c.aj 17 k) + (((c.aj 17 k) * 500) / 10000))).paj 17 k (((c.aj 17 k) + (((c.aj 17 k) * 500) / 10000)) + (f_X4_flow (c.paj 17 k ((c.aj 17 k) + (((c.aj 17 k) * 500) / 10000))) k (c.ti 1)))).paj 10 k 0).paj 18 k ((c.aj 18 k) - (((c.aj 17 k) + (((c.aj 17 k) * 500) / 10000)) + (f_X4_flow (c.paj 17 k ((c.aj 17 k) + (((c.aj 17 k) * 500) / 10000))) k (c.ti 1))))).paj 17 k ((((c.aj 17 k) + (((c.aj 17 k) * 500) / 10000)) + (f_X4_flow (c.paj 17 k ((c.aj 17 k) + (((c.aj 17 k) * 500) / 10000))) k (c.ti 1))) - (((c.aj 17 k) + (((c.aj 17 k) * 500) / 10000)) + (f_X4_flow (c.paj 17 k ((c.aj 17 k) + (((c.aj 17 k) * 500) / 10000))) k (c.ti 1))))).ptj 2 ((c.tj 2) - 0)).paj 17 k (((((c.aj 17 k) + (((c.aj 17 k) * 500) / 10000)) + (f_X4_flow (c.paj 17 k ((c.aj 17 k) + (((c.aj 17 k) * 500) / 10000))) k (c.ti 1))) - (((c.aj 17 k) + (((c.aj 17 k) * 500) / 10000)) + (f_X4_flow (c.paj 17 k ((c.aj 17 k) + (((c.aj 17 k) * 500) / 10000))) k (c.ti 1)))) - 0)).paj 19 k ((c.aj 19 k) + ((((c.aj 17 k) + (((c.aj 17 k) * 500) / 10000)) + (f_X4_flow (c.paj 17 k ((c.aj 17 k) + (((c.aj 17 k) * 500) / 10000))) k (c.ti 1))) + 0))).aj 17 k = ((((c.aj 17 k) + (((c.aj 17 k) * 500) / 10000)) + (f_X4_flow (c.paj 17 k ((c.aj 17 k) + (((c.aj 17 k) * 500) / 10000))) k (c.ti 1))) - (((c.aj 17 k) + (((c.aj 17 k) * 500) / 10000)) + (f_X4_flow (c.paj 17 k ((c.aj 17 k) + (((c.aj 17 k) * 500) / 10000))) k (c.ti 1)))) - 0 from (by show up2 _ 17 k _ 17 k = _; exact up2_self)]
            refine s_lconst (v := 0) dX4_looksAt_249 (by decide) ?_
            refine s_lcne (tgt := 259) dX4_looksAt_250 dX4_looksAt_251 (by decide) (fun c_250 => ?_) (fun c_250 => ?_)
            · skip
              refine s_lloadn dX4_looksAt_259 rfl rfl ?_
              exact s_retl dX4_looksAt_260 rfl (NJ.of (F := f_X4_looksAt c k) (x := (((c.aj 17 k) + (((c.aj 17 k) * 500) / 10000)) + (f_X4_flow (c.paj 17 k ((c.aj 17 k) + (((c.aj 17 k) * 500) / 10000))) k (c.ti 1))) + 0) (by unfold f_X4_looksAt; rw [if_neg c_8, if_pos c_67, if_neg c_93, if_neg c_147, if_neg c_240, if_neg c_250]) hW64 hF64)
            · skip
              refine s_aloadn dX4_looksAt_254 rfl rfl ?_
              refine s_iloadn dX4_looksAt_255 rfl rfl ?_
              refine s_cv1G (n := 55) dX4_looksAt_256 rfl (kv hW64.mm (by decide) rfl) rfl (by decide) (by decide) (by decide) (by decide) (Nat.le_of_ble_eq_true rfl) (m_X4_ends hW64 hk) (fun r65 S65 hr65 => ?_) (fun x S2 hr => by obtain ⟨e, -⟩ := hr; cases e)
              obtain ⟨e65, hW65, hG65⟩ := hr65
              cases e65
              have hF65 := hF64.tr hG65
              refine s_lloadn dX4_looksAt_259 rfl rfl ?_
              exact s_retl dX4_looksAt_260 rfl (NJ.of (F := f_X4_looksAt c k) (x := (((c.aj 17 k) + (((c.aj 17 k) * 500) / 10000)) + (f_X4_flow (c.paj 17 k ((c.aj 17 k) + (((c.aj 17 k) * 500) / 10000))) k (c.ti 1))) + 0) (by unfold f_X4_looksAt; rw [if_neg c_8, if_pos c_67, if_neg c_93, if_neg c_147, if_neg c_240, if_pos c_250]) hW65 hF65)
        · skip
          refine s_aloadn dX4_looksAt_150 rfl rfl ?_
          refine s_get (v := .long (c.tj 2)) (n := 63) dX4_looksAt_151 rfl hW61.mm (congrArg Value.long (congrFun hW61.tj 2)) ?_
          refine s_lconst (v := 0) dX4_looksAt_154 (by decide) ?_
          refine s_lcge (tgt := 163) dX4_looksAt_155 dX4_looksAt_156 (by decide) (fun c_155 => ?_) (fun c_155 => ?_)
          · skip
            refine s_aloadn dX4_looksAt_163 rfl rfl ?_
            refine s_getR (n := 78) dX4_looksAt_164 rfl hW61.mm (fun _ _ _ => rfl) (hW61.rr 17 (by decide)).1 ?_
            refine s_iloadn dX4_looksAt_167 rfl rfl ?_
            refine s_lald' (j := k) dX4_looksAt_168 (Or.inr (Or.inl (hW61.rr 17 (by decide)).2.1)) rfl (by rw [(hW61.rr 17 (by decide)).2.2]; exact hk) (by rw [(hW61.rr 17 (by decide)).2.2]; decide) ?_
            rw [hW61.aj 17 (by decide)]
            rw [show (((((c.paj 17 k ((c.aj 17 k) + (((c.aj 17 k) * 500) / 10000))).paj 17 k (((c.aj 17 k) + (((c.aj 17 k) * 500) / 10000)) + (f_X4_flow (c.paj 17 k ((c.aj 17 k) + (((c.aj 17 k) * 500) / 10000))) k (c.ti 1)))).paj 10 k 0).paj 18 k ((c.aj 18 k) - (((c.aj 17 k) + (((c.aj 17 k) * 500) / 10000)) + (f_X4_flow (c.paj 17 k ((c.aj 17 k) + (((c.aj 17 k) * 500) / 10000))) k (c.ti 1))))).paj 17 k ((((c.aj 17 k) + (((c.aj 17 k) * 500) / 10000)) + (f_X4_flow (c.paj 17 k ((c.aj 17 k) + (((c.aj 17 k) * 500) / 10000))) k (c.ti 1))) - (((c.aj 17 k) + (((c.aj 17 k) * 500) / 10000)) + (f_X4_flow (c.paj 17 k ((c.aj 17 k) + (((c.aj 17 k) * 500) / 10000))) k (c.ti 1))))).aj 17 k = (((c.aj 17 k) + (((c.aj 17 k) * 500) / 10000)) + (f_X4_flow (c.paj 17 k ((c.aj 17 k) + (((c.aj 17 k) * 500) / 10000))) k (c.ti 1))) - (((c.aj 17 k) + (((c.aj 17 k) * 500) / 10000)) + (f_X4_flow (c.paj 17 k ((c.aj 17 k) + (((c.aj 17 k) * 500) / 10000))) k (c.ti 1))) from (by show up2 _ 17 k _ 17 k = _; exact up2_self)]
            refine s_aloadn dX4_looksAt_169 rfl rfl ?_
            refine s_get (v := .long (c.tj 2)) (n := 63) dX4_looksAt_170 rfl hW61.mm (congrArg Value.long (congrFun hW61.tj 2)) ?_
            refine s_lcge (tgt := 186) dX4_looksAt_173 dX4_looksAt_174 (by decide) (fun c_173 => ?_) (fun c_173 => ?_)
            · skip
              refine s_aloadn dX4_looksAt_186 rfl rfl ?_
              refine s_get (v := .long (c.tj 2)) (n := 63) dX4_looksAt_187 rfl hW61.mm (congrArg Value.long (congrFun hW61.tj 2)) ?_
              refine s_lstore dX4_looksAt_190 (by decide) ?_
              refine s_aloadn dX4_looksAt_192 rfl rfl ?_
              refine s_dup dX4_looksAt_193 rfl ?_
              refine s_get (v := .long (c.tj 2)) (n := 63) dX4_looksAt_194 rfl hW61.mm (congrArg Value.long (congrFun hW61.tj 2)) ?_
              refine s_lload dX4_looksAt_197 rfl ?_
              refine s_lsub dX4_looksAt_199 ?_
              refine s_putJ (n := 63) dX4_looksAt_200 rfl hW61.mm (Or.inl rfl) (fun _ _ _ => rfl) rfl rfl ?_
              have hW66 := hW61.ptj (k := 2) (v := (c.tj 2) - (c.tj 2))
              have hF66 := hF61.uJ (a := w.mm) (k := 2) (v := (c.tj 2) - (c.tj 2)) (kd := 5) hW61.mm (by decide)
              refine s_aloadn dX4_looksAt_203 rfl rfl ?_
              refine s_getR (n := 78) dX4_looksAt_204 rfl hW66.mm (fun _ _ _ => rfl) (hW66.rr 17 (by decide)).1 ?_
              refine s_iloadn dX4_looksAt_207 rfl rfl ?_
              refine s_dup2 dX4_looksAt_208 rfl rfl ?_
              refine s_lald' (j := k) dX4_looksAt_209 (Or.inr (Or.inl (hW66.rr 17 (by decide)).2.1)) rfl (by rw [(hW66.rr 17 (by decide)).2.2]; exact hk) (by rw [(hW66.rr 17 (by decide)).2.2]; decide) ?_
              rw [hW66.aj 17 (by decide)]
              rw [show ((((((c.paj 17 k ((c.aj 17 k) + (((c.aj 17 k) * 500) / 10000))).paj 17 k (((c.aj 17 k) + (((c.aj 17 k) * 500) / 10000)) + (f_X4_flow (c.paj 17 k ((c.aj 17 k) + (((c.aj 17 k) * 500) / 10000))) k (c.ti 1)))).paj 10 k 0).paj 18 k ((c.aj 18 k) - (((c.aj 17 k) + (((c.aj 17 k) * 500) / 10000)) + (f_X4_flow (c.paj 17 k ((c.aj 17 k) + (((c.aj 17 k) * 500) / 10000))) k (c.ti 1))))).paj 17 k ((((c.aj 17 k) + (((c.aj 17 k) * 500) / 10000)) + (f_X4_flow (c.paj 17 k ((c.aj 17 k) + (((c.aj 17 k) * 500) / 10000))) k (c.ti 1))) - (((c.aj 17 k) + (((c.aj 17 k) * 500) / 10000)) + (f_X4_flow (c.paj 17 k ((c.aj 17 k) + (((c.aj 17 k) * 500) / 10000))) k (c.ti 1))))).ptj 2 ((c.tj 2) - (c.tj 2))).aj 17 k = (((c.aj 17 k) + (((c.aj 17 k) * 500) / 10000)) + (f_X4_flow (c.paj 17 k ((c.aj 17 k) + (((c.aj 17 k) * 500) / 10000))) k (c.ti 1))) - (((c.aj 17 k) + (((c.aj 17 k) * 500) / 10000)) + (f_X4_flow (c.paj 17 k ((c.aj 17 k) + (((c.aj 17 k) * 500) / 10000))) k (c.ti 1))) from (by show up2 _ 17 k _ 17 k = _; exact up2_self)]
              refine s_lload dX4_looksAt_210 rfl ?_
              refine s_lsub dX4_looksAt_212 ?_
              refine s_last' (j := k) dX4_looksAt_213 (Or.inr (Or.inl (hW66.rr 17 (by decide)).2.1)) rfl (by rw [(hW66.rr 17 (by decide)).2.2]; exact hk) (by rw [(hW66.rr 17 (by decide)).2.2]; decide) ?_
              have hW67 := hW66.paj (f := 17) (by decide) (k := k) (v := ((((c.aj 17 k) + (((c.aj 17 k) * 500) / 10000)) + (f_X4_flow (c.paj 17 k ((c.aj 17 k) + (((c.aj 17 k) * 500) / 10000))) k (c.ti 1))) - (((c.aj 17 k) + (((c.aj 17 k) * 500) / 10000)) + (f_X4_flow (c.paj 17 k ((c.aj 17 k) + (((c.aj 17 k) * 500) / 10000))) k (c.ti 1)))) - (c.tj 2))
              have hF67 := hF66.uJ (a := (w.ar 17)) (k := k) (v := ((((c.aj 17 k) + (((c.aj 17 k) * 500) / 10000)) + (f_X4_flow (c.paj 17 k ((c.aj 17 k) + (((c.aj 17 k) * 500) / 10000))) k (c.ti 1))) - (((c.aj 17 k) + (((c.aj 17 k) * 500) / 10000)) + (f_X4_flow (c.paj 17 k ((c.aj 17 k) + (((c.aj 17 k) * 500) / 10000))) k (c.ti 1)))) - (c.tj 2)) (kd := 10) ((hW66.rr 17 (by decide)).2.1) (by decide)
              refine s_lload dX4_looksAt_214 rfl ?_
              refine s_lload dX4_looksAt_216 rfl ?_
              refine s_ladd dX4_looksAt_218 ?_
              refine s_lstoren dX4_looksAt_219 rfl (by decide) ?_
              refine s_aloadn dX4_looksAt_220 rfl rfl ?_
              refine s_getR (n := 80) dX4_looksAt_221 rfl hW67.mm (fun _ _ _ => rfl) (hW67.rr 19 (by decide)).1 ?_
              refine s_iloadn dX4_looksAt_224 rfl rfl ?_
              refine s_dup2 dX4_looksAt_225 rfl rfl ?_
              refine s_lald' (j := k) dX4_looksAt_226 (Or.inr (Or.inl (hW67.rr 19 (by decide)).2.1)) rfl (by rw [(hW67.rr 19 (by decide)).2.2]; exact hk) (by rw [(hW67.rr 19 (by decide)).2.2]; decide) ?_
              rw [hW67.aj 19 (by decide)]
              rw [show (((((((c.paj 17 k ((c.aj 17 k) + (((c.aj 17 k) * 500) / 10000))).paj 17 k (((c.aj 17 k) + (((c.aj 17 k) * 500) / 10000)) + (f_X4_flow (c.paj 17 k ((c.aj 17 k) + (((c.aj 17 k) * 500) / 10000))) k (c.ti 1)))).paj 10 k 0).paj 18 k ((c.aj 18 k) - (((c.aj 17 k) + (((c.aj 17 k) * 500) / 10000)) + (f_X4_flow (c.paj 17 k ((c.aj 17 k) + (((c.aj 17 k) * 500) / 10000))) k (c.ti 1))))).paj 17 k ((((c.aj 17 k) + (((c.aj 17 k) * 500) / 10000)) + (f_X4_flow (c.paj 17 k ((c.aj 17 k) + (((c.aj 17 k) * 500) / 10000))) k (c.ti 1))) - (((c.aj 17 k) + (((c.aj 17 k) * 500) / 10000)) + (f_X4_flow (c.paj 17 k ((c.aj 17 k) + (((c.aj 17 k) * 500) / 10000))) k (c.ti 1))))).ptj 2 ((c.tj 2) - (c.tj 2))).paj 17 k (((((c.aj 17 k) + (((c.aj 17 k) * 500) / 10000)) + (f_X4_flow (c.paj 17 k ((c.aj 17 k) + (((c.aj 17 k) * 500) / 10000))) k (c.ti 1))) - (((c.aj 17 k) + (((c.aj 17 k) * 500) / 10000)) + (f_X4_flow (c.paj 17 k ((c.aj 17 k) + (((c.aj 17 k) * 500) / 10000))) k (c.ti 1)))) - (c.tj 2))).aj 19 k = (c.aj 19 k) from (rfl)]
              refine s_lloadn dX4_looksAt_227 rfl rfl ?_
              refine s_ladd dX4_looksAt_228 ?_
              refine s_last' (j := k) dX4_looksAt_229 (Or.inr (Or.inl (hW67.rr 19 (by decide)).2.1)) rfl (by rw [(hW67.rr 19 (by decide)).2.2]; exact hk) (by rw [(hW67.rr 19 (by decide)).2.2]; decide) ?_
              have hW68 := hW67.paj (f := 19) (by decide) (k := k) (v := (c.aj 19 k) + ((((c.aj 17 k) + (((c.aj 17 k) * 500) / 10000)) + (f_X4_flow (c.paj 17 k ((c.aj 17 k) + (((c.aj 17 k) * 500) / 10000))) k (c.ti 1))) + (c.tj 2)))
              have hF68 := hF67.uJ (a := (w.ar 19)) (k := k) (v := (c.aj 19 k) + ((((c.aj 17 k) + (((c.aj 17 k) * 500) / 10000)) + (f_X4_flow (c.paj 17 k ((c.aj 17 k) + (((c.aj 17 k) * 500) / 10000))) k (c.ti 1))) + (c.tj 2))) (kd := 10) ((hW67.rr 19 (by decide)).2.1) (by decide)
              refine s_aloadn dX4_looksAt_230 rfl rfl ?_
              refine s_getR (n := 73) dX4_looksAt_231 rfl hW68.mm (fun _ _ _ => rfl) (hW68.rr 12 (by decide)).1 ?_
              refine s_iloadn dX4_looksAt_234 rfl rfl ?_
              refine s_iald' (j := k) dX4_looksAt_235 ((hW68.rr 12 (by decide)).2.1) rfl (by rw [(hW68.rr 12 (by decide)).2.2]; exact hk) (by rw [(hW68.rr 12 (by decide)).2.2]; decide) ?_
              rw [hW68.ai 12 (by decide)]
              refine s_aloadn dX4_looksAt_236 rfl rfl ?_
              refine s_get (v := .int (c.ti 1)) (n := 62) dX4_looksAt_237 rfl hW68.mm (congrArg Value.int (congrFun hW68.ti 1)) ?_
              refine s_icgt (tgt := 259) dX4_looksAt_240 (by decide) (fun c_240 => ?_) (fun c_240 => ?_)
              · skip
                refine s_lloadn dX4_looksAt_259 rfl rfl ?_
                exact s_retl dX4_looksAt_260 rfl (NJ.of (F := f_X4_looksAt c k) (x := (((c.aj 17 k) + (((c.aj 17 k) * 500) / 10000)) + (f_X4_flow (c.paj 17 k ((c.aj 17 k) + (((c.aj 17 k) * 500) / 10000))) k (c.ti 1))) + (c.tj 2)) (by unfold f_X4_looksAt; rw [if_neg c_8, if_pos c_67, if_neg c_93, if_pos c_147, if_pos c_155, if_pos c_173, if_pos c_240]) hW68 hF68)
              · skip
                refine s_aloadn dX4_looksAt_243 rfl rfl ?_
                refine s_getR (n := 78) dX4_looksAt_244 rfl hW68.mm (fun _ _ _ => rfl) (hW68.rr 17 (by decide)).1 ?_
                refine s_iloadn dX4_looksAt_247 rfl rfl ?_
                refine s_lald' (j := k) dX4_looksAt_248 (Or.inr (Or.inl (hW68.rr 17 (by decide)).2.1)) rfl (by rw [(hW68.rr 17 (by decide)).2.2]; exact hk) (by rw [(hW68.rr 17 (by decide)).2.2]; decide) ?_
                rw [hW68.aj 17 (by decide)]
                rw [show ((((((((c.paj 17 k ((c.aj 17 k) + (((c.aj 17 k) * 500) / 10000))).paj 17 k (((c.aj 17 k) + (((c.aj 17 k) * 500) / 10000)) + (f_X4_flow (c.paj 17 k ((c.aj 17 k) + (((c.aj 17 k) * 500) / 10000))) k (c.ti 1)))).paj 10 k 0).paj 18 k ((c.aj 18 k) - (((c.aj 17 k) + (((c.aj 17 k) * 500) / 10000)) + (f_X4_flow (c.paj 17 k ((c.aj 17 k) + (((c.aj 17 k) * 500) / 10000))) k (c.ti 1))))).paj 17 k ((((c.aj 17 k) + (((c.aj 17 k) * 500) / 10000)) + (f_X4_flow (c.paj 17 k ((c.aj 17 k) + (((c.aj 17 k) * 500) / 10000))) k (c.ti 1))) - (((c.aj 17 k) + (((c.aj 17 k) * 500) / 10000)) + (f_X4_flow (c.paj 17 k ((c.aj 17 k) + (((c.aj 17 k) * 500) / 10000))) k (c.ti 1))))).ptj 2 ((c.tj 2) - (c.tj 2))).paj 17 k (((((c.aj 17 k) + (((c.aj 17 k) * 500) / 10000)) + (f_X4_flow (c.paj 17 k ((c.aj 17 k) + (((c.aj 17 k) * 500) / 10000))) k (c.ti 1))) - (((c.aj 17 k) + (((c.aj 17 k) * 500) / 10000)) + (f_X4_flow (c.paj 17 k ((c.aj 17 k) + (((c.aj 17 k) * 500) / 10000))) k (c.ti 1)))) - (c.tj 2))).paj 19 k ((c.aj 19 k) + ((((c.aj 17 k) + (((c.aj 17 k) * 500) / 10000)) + (f_X4_flow (c.paj 17 k ((c.aj 17 k) + (((c.aj 17 k) * 500) / 10000))) k (c.ti 1))) + (c.tj 2)))).aj 17 k = ((((c.aj 17 k) + (((c.aj 17 k) * 500) / 10000)) + (f_X4_flow (c.paj 17 k ((c.aj 17 k) + (((c.aj 17 k) * 500) / 10000))) k (c.ti 1))) - (((c.aj 17 k) + (((c.aj 17 k) * 500) / 10000)) + (f_X4_flow (c.paj 17 k ((c.aj 17 k) + (((c.aj 17 k) * 500) / 10000))) k (c.ti 1)))) - (c.tj 2) from (by show up2 _ 17 k _ 17 k = _; exact up2_self)]
                refine s_lconst (v := 0) dX4_looksAt_249 (by decide) ?_
                refine s_lcne (tgt := 259) dX4_looksAt_250 dX4_looksAt_251 (by decide) (fun c_250 => ?_) (fun c_250 => ?_)
                · skip
                  refine s_lloadn dX4_looksAt_259 rfl rfl ?_
                  exact s_retl dX4_looksAt_260 rfl (NJ.of (F := f_X4_looksAt c k) (x := (((c.aj 17 k) + (((c.aj 17 k) * 500) / 10000)) + (f_X4_flow (c.paj 17 k ((c.aj 17 k) + (((c.aj 17 k) * 500) / 10000))) k (c.ti 1))) + (c.tj 2)) (by unfold f_X4_looksAt; rw [if_neg c_8, if_pos c_67, if_neg c_93, if_pos c_147, if_pos c_155, if_pos c_173, if_neg c_240, if_neg c_250]) hW68 hF68)
                · skip
                  refine s_aloadn dX4_looksAt_254 rfl rfl ?_
                  refine s_iloadn dX4_looksAt_255 rfl rfl ?_
                  refine s_cv1G (n := 55) dX4_looksAt_256 rfl (kv hW68.mm (by decide) rfl) rfl (by decide) (by decide) (by decide) (by decide) (Nat.le_of_ble_eq_true rfl) (m_X4_ends hW68 hk) (fun r69 S69 hr69 => ?_) (fun x S2 hr => by obtain ⟨e, -⟩ := hr; cases e)
                  obtain ⟨e69, hW69, hG69⟩ := hr69
                  cases e69
                  have hF69 := hF68.tr hG69
                  refine s_lloadn dX4_looksAt_259 rfl rfl ?_
                  exact s_retl dX4_looksAt_260 rfl (NJ.of (F := f_X4_looksAt c k) (x := (((c.aj 17 k) + (((c.aj 17 k) * 500) / 10000)) + (f_X4_flow (c.paj 17 k ((c.aj 17 k) + (((c.aj 17 k) * 500) / 10000))) k (c.ti 1))) + (c.tj 2)) (by unfold f_X4_looksAt; rw [if_neg c_8, if_pos c_67, if_neg c_93, if_pos c_147, if_pos c_155, if_pos c_173, if_neg c_240, if_pos c_250]) hW69 hF69)
            · skip
              refine s_aloadn dX4_looksAt_177 rfl rfl ?_
              refine s_getR (n := 78) dX4_looksAt_178 rfl hW61.mm (fun _ _ _ => rfl) (hW61.rr 17 (by decide)).1 ?_
              refine s_iloadn dX4_looksAt_181 rfl rfl ?_
              refine s_lald' (j := k) dX4_looksAt_182 (Or.inr (Or.inl (hW61.rr 17 (by decide)).2.1)) rfl (by rw [(hW61.rr 17 (by decide)).2.2]; exact hk) (by rw [(hW61.rr 17 (by decide)).2.2]; decide) ?_
              rw [hW61.aj 17 (by decide)]
              rw [show (((((c.paj 17 k ((c.aj 17 k) + (((c.aj 17 k) * 500) / 10000))).paj 17 k (((c.aj 17 k) + (((c.aj 17 k) * 500) / 10000)) + (f_X4_flow (c.paj 17 k ((c.aj 17 k) + (((c.aj 17 k) * 500) / 10000))) k (c.ti 1)))).paj 10 k 0).paj 18 k ((c.aj 18 k) - (((c.aj 17 k) + (((c.aj 17 k) * 500) / 10000)) + (f_X4_flow (c.paj 17 k ((c.aj 17 k) + (((c.aj 17 k) * 500) / 10000))) k (c.ti 1))))).paj 17 k ((((c.aj 17 k) + (((c.aj 17 k) * 500) / 10000)) + (f_X4_flow (c.paj 17 k ((c.aj 17 k) + (((c.aj 17 k) * 500) / 10000))) k (c.ti 1))) - (((c.aj 17 k) + (((c.aj 17 k) * 500) / 10000)) + (f_X4_flow (c.paj 17 k ((c.aj 17 k) + (((c.aj 17 k) * 500) / 10000))) k (c.ti 1))))).aj 17 k = (((c.aj 17 k) + (((c.aj 17 k) * 500) / 10000)) + (f_X4_flow (c.paj 17 k ((c.aj 17 k) + (((c.aj 17 k) * 500) / 10000))) k (c.ti 1))) - (((c.aj 17 k) + (((c.aj 17 k) * 500) / 10000)) + (f_X4_flow (c.paj 17 k ((c.aj 17 k) + (((c.aj 17 k) * 500) / 10000))) k (c.ti 1))) from (by show up2 _ 17 k _ 17 k = _; exact up2_self)]
              refine s_goto (tgt := 190) dX4_looksAt_183 (by decide) ?_
              refine s_lstore dX4_looksAt_190 (by decide) ?_
              refine s_aloadn dX4_looksAt_192 rfl rfl ?_
              refine s_dup dX4_looksAt_193 rfl ?_
              refine s_get (v := .long (c.tj 2)) (n := 63) dX4_looksAt_194 rfl hW61.mm (congrArg Value.long (congrFun hW61.tj 2)) ?_
              refine s_lload dX4_looksAt_197 rfl ?_
              refine s_lsub dX4_looksAt_199 ?_
              refine s_putJ (n := 63) dX4_looksAt_200 rfl hW61.mm (Or.inl rfl) (fun _ _ _ => rfl) rfl rfl ?_
              have hW70 := hW61.ptj (k := 2) (v := (c.tj 2) - ((((c.aj 17 k) + (((c.aj 17 k) * 500) / 10000)) + (f_X4_flow (c.paj 17 k ((c.aj 17 k) + (((c.aj 17 k) * 500) / 10000))) k (c.ti 1))) - (((c.aj 17 k) + (((c.aj 17 k) * 500) / 10000)) + (f_X4_flow (c.paj 17 k ((c.aj 17 k) + (((c.aj 17 k) * 500) / 10000))) k (c.ti 1)))))
              have hF70 := hF61.uJ (a := w.mm) (k := 2) (v := (c.tj 2) - ((((c.aj 17 k) + (((c.aj 17 k) * 500) / 10000)) + (f_X4_flow (c.paj 17 k ((c.aj 17 k) + (((c.aj 17 k) * 500) / 10000))) k (c.ti 1))) - (((c.aj 17 k) + (((c.aj 17 k) * 500) / 10000)) + (f_X4_flow (c.paj 17 k ((c.aj 17 k) + (((c.aj 17 k) * 500) / 10000))) k (c.ti 1))))) (kd := 5) hW61.mm (by decide)
              refine s_aloadn dX4_looksAt_203 rfl rfl ?_
              refine s_getR (n := 78) dX4_looksAt_204 rfl hW70.mm (fun _ _ _ => rfl) (hW70.rr 17 (by decide)).1 ?_
              refine s_iloadn dX4_looksAt_207 rfl rfl ?_
              refine s_dup2 dX4_looksAt_208 rfl rfl ?_
              refine s_lald' (j := k) dX4_looksAt_209 (Or.inr (Or.inl (hW70.rr 17 (by decide)).2.1)) rfl (by rw [(hW70.rr 17 (by decide)).2.2]; exact hk) (by rw [(hW70.rr 17 (by decide)).2.2]; decide) ?_
              rw [hW70.aj 17 (by decide)]
              rw [show ((((((c.paj 17 k ((c.aj 17 k) + (((c.aj 17 k) * 500) / 10000))).paj 17 k (((c.aj 17 k) + (((c.aj 17 k) * 500) / 10000)) + (f_X4_flow (c.paj 17 k ((c.aj 17 k) + (((c.aj 17 k) * 500) / 10000))) k (c.ti 1)))).paj 10 k 0).paj 18 k ((c.aj 18 k) - (((c.aj 17 k) + (((c.aj 17 k) * 500) / 10000)) + (f_X4_flow (c.paj 17 k ((c.aj 17 k) + (((c.aj 17 k) * 500) / 10000))) k (c.ti 1))))).paj 17 k ((((c.aj 17 k) + (((c.aj 17 k) * 500) / 10000)) + (f_X4_flow (c.paj 17 k ((c.aj 17 k) + (((c.aj 17 k) * 500) / 10000))) k (c.ti 1))) - (((c.aj 17 k) + (((c.aj 17 k) * 500) / 10000)) + (f_X4_flow (c.paj 17 k ((c.aj 17 k) + (((c.aj 17 k) * 500) / 10000))) k (c.ti 1))))).ptj 2 ((c.tj 2) - ((((c.aj 17 k) + (((c.aj 17 k) * 500) / 10000)) + (f_X4_flow (c.paj 17 k ((c.aj 17 k) + (((c.aj 17 k) * 500) / 10000))) k (c.ti 1))) - (((c.aj 17 k) + (((c.aj 17 k) * 500) / 10000)) + (f_X4_flow (c.paj 17 k ((c.aj 17 k) + (((c.aj 17 k) * 500) / 10000))) k (c.ti 1)))))).aj 17 k = (((c.aj 17 k) + (((c.aj 17 k) * 500) / 10000)) + (f_X4_flow (c.paj 17 k ((c.aj 17 k) + (((c.aj 17 k) * 500) / 10000))) k (c.ti 1))) - (((c.aj 17 k) + (((c.aj 17 k) * 500) / 10000)) + (f_X4_flow (c.paj 17 k ((c.aj 17 k) + (((c.aj 17 k) * 500) / 10000))) k (c.ti 1))) from (by show up2 _ 17 k _ 17 k = _; exact up2_self)]
              refine s_lload dX4_looksAt_210 rfl ?_
              refine s_lsub dX4_looksAt_212 ?_
              refine s_last' (j := k) dX4_looksAt_213 (Or.inr (Or.inl (hW70.rr 17 (by decide)).2.1)) rfl (by rw [(hW70.rr 17 (by decide)).2.2]; exact hk) (by rw [(hW70.rr 17 (by decide)).2.2]; decide) ?_
              have hW71 := hW70.paj (f := 17) (by decide) (k := k) (v := ((((c.aj 17 k) + (((c.aj 17 k) * 500) / 10000)) + (f_X4_flow (c.paj 17 k ((c.aj 17 k) + (((c.aj 17 k) * 500) / 10000))) k (c.ti 1))) - (((c.aj 17 k) + (((c.aj 17 k) * 500) / 10000)) + (f_X4_flow (c.paj 17 k ((c.aj 17 k) + (((c.aj 17 k) * 500) / 10000))) k (c.ti 1)))) - ((((c.aj 17 k) + (((c.aj 17 k) * 500) / 10000)) + (f_X4_flow (c.paj 17 k ((c.aj 17 k) + (((c.aj 17 k) * 500) / 10000))) k (c.ti 1))) - (((c.aj 17 k) + (((c.aj 17 k) * 500) / 10000)) + (f_X4_flow (c.paj 17 k ((c.aj 17 k) + (((c.aj 17 k) * 500) / 10000))) k (c.ti 1)))))
              have hF71 := hF70.uJ (a := (w.ar 17)) (k := k) (v := ((((c.aj 17 k) + (((c.aj 17 k) * 500) / 10000)) + (f_X4_flow (c.paj 17 k ((c.aj 17 k) + (((c.aj 17 k) * 500) / 10000))) k (c.ti 1))) - (((c.aj 17 k) + (((c.aj 17 k) * 500) / 10000)) + (f_X4_flow (c.paj 17 k ((c.aj 17 k) + (((c.aj 17 k) * 500) / 10000))) k (c.ti 1)))) - ((((c.aj 17 k) + (((c.aj 17 k) * 500) / 10000)) + (f_X4_flow (c.paj 17 k ((c.aj 17 k) + (((c.aj 17 k) * 500) / 10000))) k (c.ti 1))) - (((c.aj 17 k) + (((c.aj 17 k) * 500) / 10000)) + (f_X4_flow (c.paj 17 k ((c.aj 17 k) + (((c.aj 17 k) * 500) / 10000))) k (c.ti 1))))) (kd := 10) ((hW70.rr 17 (by decide)).2.1) (by decide)
              refine s_lload dX4_looksAt_214 rfl ?_
              refine s_lload dX4_looksAt_216 rfl ?_
              refine s_ladd dX4_looksAt_218 ?_
              refine s_lstoren dX4_looksAt_219 rfl (by decide) ?_
              refine s_aloadn dX4_looksAt_220 rfl rfl ?_
              refine s_getR (n := 80) dX4_looksAt_221 rfl hW71.mm (fun _ _ _ => rfl) (hW71.rr 19 (by decide)).1 ?_
              refine s_iloadn dX4_looksAt_224 rfl rfl ?_
              refine s_dup2 dX4_looksAt_225 rfl rfl ?_
              refine s_lald' (j := k) dX4_looksAt_226 (Or.inr (Or.inl (hW71.rr 19 (by decide)).2.1)) rfl (by rw [(hW71.rr 19 (by decide)).2.2]; exact hk) (by rw [(hW71.rr 19 (by decide)).2.2]; decide) ?_
              rw [hW71.aj 19 (by decide)]
              rw [show (((((((c.paj 17 k ((c.aj 17 k) + (((c.aj 17 k) * 500) / 10000))).paj 17 k (((c.aj 17 k) + (((c.aj 17 k) * 500) / 10000)) + (f_X4_flow (c.paj 17 k ((c.aj 17 k) + (((c.aj 17 k) * 500) / 10000))) k (c.ti 1)))).paj 10 k 0).paj 18 k ((c.aj 18 k) - (((c.aj 17 k) + (((c.aj 17 k) * 500) / 10000)) + (f_X4_flow (c.paj 17 k ((c.aj 17 k) + (((c.aj 17 k) * 500) / 10000))) k (c.ti 1))))).paj 17 k ((((c.aj 17 k) + (((c.aj 17 k) * 500) / 10000)) + (f_X4_flow (c.paj 17 k ((c.aj 17 k) + (((c.aj 17 k) * 500) / 10000))) k (c.ti 1))) - (((c.aj 17 k) + (((c.aj 17 k) * 500) / 10000)) + (f_X4_flow (c.paj 17 k ((c.aj 17 k) + (((c.aj 17 k) * 500) / 10000))) k (c.ti 1))))).ptj 2 ((c.tj 2) - ((((c.aj 17 k) + (((c.aj 17 k) * 500) / 10000)) + (f_X4_flow (c.paj 17 k ((c.aj 17 k) + (((c.aj 17 k) * 500) / 10000))) k (c.ti 1))) - (((c.aj 17 k) + (((c.aj 17 k) * 500) / 10000)) + (f_X4_flow (c.paj 17 k ((c.aj 17 k) + (((c.aj 17 k) * 500) / 10000))) k (c.ti 1)))))).paj 17 k (((((c.aj 17 k) + (((c.aj 17 k) * 500) / 10000)) + (f_X4_flow (c.paj 17 k ((c.aj 17 k) + (((c.aj 17 k) * 500) / 10000))) k (c.ti 1))) - (((c.aj 17 k) + (((c.aj 17 k) * 500) / 10000)) + (f_X4_flow (c.paj 17 k ((c.aj 17 k) + (((c.aj 17 k) * 500) / 10000))) k (c.ti 1)))) - ((((c.aj 17 k) + (((c.aj 17 k) * 500) / 10000)) + (f_X4_flow (c.paj 17 k ((c.aj 17 k) + (((c.aj 17 k) * 500) / 10000))) k (c.ti 1))) - (((c.aj 17 k) + (((c.aj 17 k) * 500) / 10000)) + (f_X4_flow (c.paj 17 k ((c.aj 17 k) + (((c.aj 17 k) * 500) / 10000))) k (c.ti 1)))))).aj 19 k = (c.aj 19 k) from (rfl)]
              refine s_lloadn dX4_looksAt_227 rfl rfl ?_
              refine s_ladd dX4_looksAt_228 ?_
              refine s_last' (j := k) dX4_looksAt_229 (Or.inr (Or.inl (hW71.rr 19 (by decide)).2.1)) rfl (by rw [(hW71.rr 19 (by decide)).2.2]; exact hk) (by rw [(hW71.rr 19 (by decide)).2.2]; decide) ?_
              have hW72 := hW71.paj (f := 19) (by decide) (k := k) (v := (c.aj 19 k) + ((((c.aj 17 k) + (((c.aj 17 k) * 500) / 10000)) + (f_X4_flow (c.paj 17 k ((c.aj 17 k) + (((c.aj 17 k) * 500) / 10000))) k (c.ti 1))) + ((((c.aj 17 k) + (((c.aj 17 k) * 500) / 10000)) + (f_X4_flow (c.paj 17 k ((c.aj 17 k) + (((c.aj 17 k) * 500) / 10000))) k (c.ti 1))) - (((c.aj 17 k) + (((c.aj 17 k) * 500) / 10000)) + (f_X4_flow (c.paj 17 k ((c.aj 17 k) + (((c.aj 17 k) * 500) / 10000))) k (c.ti 1))))))
              have hF72 := hF71.uJ (a := (w.ar 19)) (k := k) (v := (c.aj 19 k) + ((((c.aj 17 k) + (((c.aj 17 k) * 500) / 10000)) + (f_X4_flow (c.paj 17 k ((c.aj 17 k) + (((c.aj 17 k) * 500) / 10000))) k (c.ti 1))) + ((((c.aj 17 k) + (((c.aj 17 k) * 500) / 10000)) + (f_X4_flow (c.paj 17 k ((c.aj 17 k) + (((c.aj 17 k) * 500) / 10000))) k (c.ti 1))) - (((c.aj 17 k) + (((c.aj 17 k) * 500) / 10000)) + (f_X4_flow (c.paj 17 k ((c.aj 17 k) + (((c.aj 17 k) * 500) / 10000))) k (c.ti 1)))))) (kd := 10) ((hW71.rr 19 (by decide)).2.1) (by decide)
              refine s_aloadn dX4_looksAt_230 rfl rfl ?_
              refine s_getR (n := 73) dX4_looksAt_231 rfl hW72.mm (fun _ _ _ => rfl) (hW72.rr 12 (by decide)).1 ?_
              refine s_iloadn dX4_looksAt_234 rfl rfl ?_
              refine s_iald' (j := k) dX4_looksAt_235 ((hW72.rr 12 (by decide)).2.1) rfl (by rw [(hW72.rr 12 (by decide)).2.2]; exact hk) (by rw [(hW72.rr 12 (by decide)).2.2]; decide) ?_
              rw [hW72.ai 12 (by decide)]
              refine s_aloadn dX4_looksAt_236 rfl rfl ?_
              refine s_get (v := .int (c.ti 1)) (n := 62) dX4_looksAt_237 rfl hW72.mm (congrArg Value.int (congrFun hW72.ti 1)) ?_
              refine s_icgt (tgt := 259) dX4_looksAt_240 (by decide) (fun c_240 => ?_) (fun c_240 => ?_)
              · skip
                refine s_lloadn dX4_looksAt_259 rfl rfl ?_
                exact s_retl dX4_looksAt_260 rfl (NJ.of (F := f_X4_looksAt c k) (x := (((c.aj 17 k) + (((c.aj 17 k) * 500) / 10000)) + (f_X4_flow (c.paj 17 k ((c.aj 17 k) + (((c.aj 17 k) * 500) / 10000))) k (c.ti 1))) + ((((c.aj 17 k) + (((c.aj 17 k) * 500) / 10000)) + (f_X4_flow (c.paj 17 k ((c.aj 17 k) + (((c.aj 17 k) * 500) / 10000))) k (c.ti 1))) - (((c.aj 17 k) + (((c.aj 17 k) * 500) / 10000)) + (f_X4_flow (c.paj 17 k ((c.aj 17 k) + (((c.aj 17 k) * 500) / 10000))) k (c.ti 1))))) (by unfold f_X4_looksAt; rw [if_neg c_8, if_pos c_67, if_neg c_93, if_pos c_147, if_pos c_155, if_neg c_173, if_pos c_240]) hW72 hF72)
              · skip
                refine s_aloadn dX4_looksAt_243 rfl rfl ?_
                refine s_getR (n := 78) dX4_looksAt_244 rfl hW72.mm (fun _ _ _ => rfl) (hW72.rr 17 (by decide)).1 ?_
                refine s_iloadn dX4_looksAt_247 rfl rfl ?_
                refine s_lald' (j := k) dX4_looksAt_248 (Or.inr (Or.inl (hW72.rr 17 (by decide)).2.1)) rfl (by rw [(hW72.rr 17 (by decide)).2.2]; exact hk) (by rw [(hW72.rr 17 (by decide)).2.2]; decide) ?_
                rw [hW72.aj 17 (by decide)]
                rw [show ((((((((c.paj 17 k ((c.aj 17 k) + (((c.aj 17 k) * 500) / 10000))).paj 17 k (((c.aj 17 k) + (((c.aj 17 k) * 500) / 10000)) + (f_X4_flow (c.paj 17 k ((c.aj 17 k) + (((c.aj 17 k) * 500) / 10000))) k (c.ti 1)))).paj 10 k 0).paj 18 k ((c.aj 18 k) - (((c.aj 17 k) + (((c.aj 17 k) * 500) / 10000)) + (f_X4_flow (c.paj 17 k ((c.aj 17 k) + (((c.aj 17 k) * 500) / 10000))) k (c.ti 1))))).paj 17 k ((((c.aj 17 k) + (((c.aj 17 k) * 500) / 10000)) + (f_X4_flow (c.paj 17 k ((c.aj 17 k) + (((c.aj 17 k) * 500) / 10000))) k (c.ti 1))) - (((c.aj 17 k) + (((c.aj 17 k) * 500) / 10000)) + (f_X4_flow (c.paj 17 k ((c.aj 17 k) + (((c.aj 17 k) * 500) / 10000))) k (c.ti 1))))).ptj 2 ((c.tj 2) - ((((c.aj 17 k) + (((c.aj 17 k) * 500) / 10000)) + (f_X4_flow (c.paj 17 k ((c.aj 17 k) + (((c.aj 17 k) * 500) / 10000))) k (c.ti 1))) - (((c.aj 17 k) + (((c.aj 17 k) * 500) / 10000)) + (f_X4_flow (c.paj 17 k ((c.aj 17 k) + (((c.aj 17 k) * 500) / 10000))) k (c.ti 1)))))).paj 17 k (((((c.aj 17 k) + (((c.aj 17 k) * 500) / 10000)) + (f_X4_flow (c.paj 17 k ((c.aj 17 k) + (((c.aj 17 k) * 500) / 10000))) k (c.ti 1))) - (((c.aj 17 k) + (((c.aj 17 k) * 500) / 10000)) + (f_X4_flow (c.paj 17 k ((c.aj 17 k) + (((c.aj 17 k) * 500) / 10000))) k (c.ti 1)))) - ((((c.aj 17 k) + (((c.aj 17 k) * 500) / 10000)) + (f_X4_flow (c.paj 17 k ((c.aj 17 k) + (((c.aj 17 k) * 500) / 10000))) k (c.ti 1))) - (((c.aj 17 k) + (((c.aj 17 k) * 500) / 10000)) + (f_X4_flow (c.paj 17 k ((c.aj 17 k) + (((c.aj 17 k) * 500) / 10000))) k (c.ti 1)))))).paj 19 k ((c.aj 19 k) + ((((c.aj 17 k) + (((c.aj 17 k) * 500) / 10000)) + (f_X4_flow (c.paj 17 k ((c.aj 17 k) + (((c.aj 17 k) * 500) / 10000))) k (c.ti 1))) + ((((c.aj 17 k) + (((c.aj 17 k) * 500) / 10000)) + (f_X4_flow (c.paj 17 k ((c.aj 17 k) + (((c.aj 17 k) * 500) / 10000))) k (c.ti 1))) - (((c.aj 17 k) + (((c.aj 17 k) * 500) / 10000)) + (f_X4_flow (c.paj 17 k ((c.aj 17 k) + (((c.aj 17 k) * 500) / 10000))) k (c.ti 1))))))).aj 17 k = ((((c.aj 17 k) + (((c.aj 17 k) * 500) / 10000)) + (f_X4_flow (c.paj 17 k ((c.aj 17 k) + (((c.aj 17 k) * 500) / 10000))) k (c.ti 1))) - (((c.aj 17 k) + (((c.aj 17 k) * 500) / 10000)) + (f_X4_flow (c.paj 17 k ((c.aj 17 k) + (((c.aj 17 k) * 500) / 10000))) k (c.ti 1)))) - ((((c.aj 17 k) + (((c.aj 17 k) * 500) / 10000)) + (f_X4_flow (c.paj 17 k ((c.aj 17 k) + (((c.aj 17 k) * 500) / 10000))) k (c.ti 1))) - (((c.aj 17 k) + (((c.aj 17 k) * 500) / 10000)) + (f_X4_flow (c.paj 17 k ((c.aj 17 k) + (((c.aj 17 k) * 500) / 10000))) k (c.ti 1)))) from (by show up2 _ 17 k _ 17 k = _; exact up2_self)]
                refine s_lconst (v := 0) dX4_looksAt_249 (by decide) ?_
                refine s_lcne (tgt := 259) dX4_looksAt_250 dX4_looksAt_251 (by decide) (fun c_250 => ?_) (fun c_250 => ?_)
                · skip
                  refine s_lloadn dX4_looksAt_259 rfl rfl ?_
                  exact s_retl dX4_looksAt_260 rfl (NJ.of (F := f_X4_looksAt c k) (x := (((c.aj 17 k) + (((c.aj 17 k) * 500) / 10000)) + (f_X4_flow (c.paj 17 k ((c.aj 17 k) + (((c.aj 17 k) * 500) / 10000))) k (c.ti 1))) + ((((c.aj 17 k) + (((c.aj 17 k) * 500) / 10000)) + (f_X4_flow (c.paj 17 k ((c.aj 17 k) + (((c.aj 17 k) * 500) / 10000))) k (c.ti 1))) - (((c.aj 17 k) + (((c.aj 17 k) * 500) / 10000)) + (f_X4_flow (c.paj 17 k ((c.aj 17 k) + (((c.aj 17 k) * 500) / 10000))) k (c.ti 1))))) (by unfold f_X4_looksAt; rw [if_neg c_8, if_pos c_67, if_neg c_93, if_pos c_147, if_pos c_155, if_neg c_173, if_neg c_240, if_neg c_250]) hW72 hF72)
                · skip
                  refine s_aloadn dX4_looksAt_254 rfl rfl ?_
                  refine s_iloadn dX4_looksAt_255 rfl rfl ?_
                  refine s_cv1G (n := 55) dX4_looksAt_256 rfl (kv hW72.mm (by decide) rfl) rfl (by decide) (by decide) (by decide) (by decide) (Nat.le_of_ble_eq_true rfl) (m_X4_ends hW72 hk) (fun r73 S73 hr73 => ?_) (fun x S2 hr => by obtain ⟨e, -⟩ := hr; cases e)
                  obtain ⟨e73, hW73, hG73⟩ := hr73
                  cases e73
                  have hF73 := hF72.tr hG73
                  refine s_lloadn dX4_looksAt_259 rfl rfl ?_
                  exact s_retl dX4_looksAt_260 rfl (NJ.of (F := f_X4_looksAt c k) (x := (((c.aj 17 k) + (((c.aj 17 k) * 500) / 10000)) + (f_X4_flow (c.paj 17 k ((c.aj 17 k) + (((c.aj 17 k) * 500) / 10000))) k (c.ti 1))) + ((((c.aj 17 k) + (((c.aj 17 k) * 500) / 10000)) + (f_X4_flow (c.paj 17 k ((c.aj 17 k) + (((c.aj 17 k) * 500) / 10000))) k (c.ti 1))) - (((c.aj 17 k) + (((c.aj 17 k) * 500) / 10000)) + (f_X4_flow (c.paj 17 k ((c.aj 17 k) + (((c.aj 17 k) * 500) / 10000))) k (c.ti 1))))) (by unfold f_X4_looksAt; rw [if_neg c_8, if_pos c_67, if_neg c_93, if_pos c_147, if_pos c_155, if_neg c_173, if_neg c_240, if_pos c_250]) hW73 hF73)
          · skip
            refine s_lconst (v := 0) dX4_looksAt_159 (by decide) ?_
            refine s_goto (tgt := 190) dX4_looksAt_160 (by decide) ?_
            refine s_lstore dX4_looksAt_190 (by decide) ?_
            refine s_aloadn dX4_looksAt_192 rfl rfl ?_
            refine s_dup dX4_looksAt_193 rfl ?_
            refine s_get (v := .long (c.tj 2)) (n := 63) dX4_looksAt_194 rfl hW61.mm (congrArg Value.long (congrFun hW61.tj 2)) ?_
            refine s_lload dX4_looksAt_197 rfl ?_
            refine s_lsub dX4_looksAt_199 ?_
            refine s_putJ (n := 63) dX4_looksAt_200 rfl hW61.mm (Or.inl rfl) (fun _ _ _ => rfl) rfl rfl ?_
            have hW74 := hW61.ptj (k := 2) (v := (c.tj 2) - 0)
            have hF74 := hF61.uJ (a := w.mm) (k := 2) (v := (c.tj 2) - 0) (kd := 5) hW61.mm (by decide)
            refine s_aloadn dX4_looksAt_203 rfl rfl ?_
            refine s_getR (n := 78) dX4_looksAt_204 rfl hW74.mm (fun _ _ _ => rfl) (hW74.rr 17 (by decide)).1 ?_
            refine s_iloadn dX4_looksAt_207 rfl rfl ?_
            refine s_dup2 dX4_looksAt_208 rfl rfl ?_
            refine s_lald' (j := k) dX4_looksAt_209 (Or.inr (Or.inl (hW74.rr 17 (by decide)).2.1)) rfl (by rw [(hW74.rr 17 (by decide)).2.2]; exact hk) (by rw [(hW74.rr 17 (by decide)).2.2]; decide) ?_
            rw [hW74.aj 17 (by decide)]
            rw [show ((((((c.paj 17 k ((c.aj 17 k) + (((c.aj 17 k) * 500) / 10000))).paj 17 k (((c.aj 17 k) + (((c.aj 17 k) * 500) / 10000)) + (f_X4_flow (c.paj 17 k ((c.aj 17 k) + (((c.aj 17 k) * 500) / 10000))) k (c.ti 1)))).paj 10 k 0).paj 18 k ((c.aj 18 k) - (((c.aj 17 k) + (((c.aj 17 k) * 500) / 10000)) + (f_X4_flow (c.paj 17 k ((c.aj 17 k) + (((c.aj 17 k) * 500) / 10000))) k (c.ti 1))))).paj 17 k ((((c.aj 17 k) + (((c.aj 17 k) * 500) / 10000)) + (f_X4_flow (c.paj 17 k ((c.aj 17 k) + (((c.aj 17 k) * 500) / 10000))) k (c.ti 1))) - (((c.aj 17 k) + (((c.aj 17 k) * 500) / 10000)) + (f_X4_flow (c.paj 17 k ((c.aj 17 k) + (((c.aj 17 k) * 500) / 10000))) k (c.ti 1))))).ptj 2 ((c.tj 2) - 0)).aj 17 k = (((c.aj 17 k) + (((c.aj 17 k) * 500) / 10000)) + (f_X4_flow (c.paj 17 k ((c.aj 17 k) + (((c.aj 17 k) * 500) / 10000))) k (c.ti 1))) - (((c.aj 17 k) + (((c.aj 17 k) * 500) / 10000)) + (f_X4_flow (c.paj 17 k ((c.aj 17 k) + (((c.aj 17 k) * 500) / 10000))) k (c.ti 1))) from (by show up2 _ 17 k _ 17 k = _; exact up2_self)]
            refine s_lload dX4_looksAt_210 rfl ?_
            refine s_lsub dX4_looksAt_212 ?_
            refine s_last' (j := k) dX4_looksAt_213 (Or.inr (Or.inl (hW74.rr 17 (by decide)).2.1)) rfl (by rw [(hW74.rr 17 (by decide)).2.2]; exact hk) (by rw [(hW74.rr 17 (by decide)).2.2]; decide) ?_
            have hW75 := hW74.paj (f := 17) (by decide) (k := k) (v := ((((c.aj 17 k) + (((c.aj 17 k) * 500) / 10000)) + (f_X4_flow (c.paj 17 k ((c.aj 17 k) + (((c.aj 17 k) * 500) / 10000))) k (c.ti 1))) - (((c.aj 17 k) + (((c.aj 17 k) * 500) / 10000)) + (f_X4_flow (c.paj 17 k ((c.aj 17 k) + (((c.aj 17 k) * 500) / 10000))) k (c.ti 1)))) - 0)
            have hF75 := hF74.uJ (a := (w.ar 17)) (k := k) (v := ((((c.aj 17 k) + (((c.aj 17 k) * 500) / 10000)) + (f_X4_flow (c.paj 17 k ((c.aj 17 k) + (((c.aj 17 k) * 500) / 10000))) k (c.ti 1))) - (((c.aj 17 k) + (((c.aj 17 k) * 500) / 10000)) + (f_X4_flow (c.paj 17 k ((c.aj 17 k) + (((c.aj 17 k) * 500) / 10000))) k (c.ti 1)))) - 0) (kd := 10) ((hW74.rr 17 (by decide)).2.1) (by decide)
            refine s_lload dX4_looksAt_214 rfl ?_
            refine s_lload dX4_looksAt_216 rfl ?_
            refine s_ladd dX4_looksAt_218 ?_
            refine s_lstoren dX4_looksAt_219 rfl (by decide) ?_
            refine s_aloadn dX4_looksAt_220 rfl rfl ?_
            refine s_getR (n := 80) dX4_looksAt_221 rfl hW75.mm (fun _ _ _ => rfl) (hW75.rr 19 (by decide)).1 ?_
            refine s_iloadn dX4_looksAt_224 rfl rfl ?_
            refine s_dup2 dX4_looksAt_225 rfl rfl ?_
            refine s_lald' (j := k) dX4_looksAt_226 (Or.inr (Or.inl (hW75.rr 19 (by decide)).2.1)) rfl (by rw [(hW75.rr 19 (by decide)).2.2]; exact hk) (by rw [(hW75.rr 19 (by decide)).2.2]; decide) ?_
            rw [hW75.aj 19 (by decide)]
            rw [show (((((((c.paj 17 k ((c.aj 17 k) + (((c.aj 17 k) * 500) / 10000))).paj 17 k (((c.aj 17 k) + (((c.aj 17 k) * 500) / 10000)) + (f_X4_flow (c.paj 17 k ((c.aj 17 k) + (((c.aj 17 k) * 500) / 10000))) k (c.ti 1)))).paj 10 k 0).paj 18 k ((c.aj 18 k) - (((c.aj 17 k) + (((c.aj 17 k) * 500) / 10000)) + (f_X4_flow (c.paj 17 k ((c.aj 17 k) + (((c.aj 17 k) * 500) / 10000))) k (c.ti 1))))).paj 17 k ((((c.aj 17 k) + (((c.aj 17 k) * 500) / 10000)) + (f_X4_flow (c.paj 17 k ((c.aj 17 k) + (((c.aj 17 k) * 500) / 10000))) k (c.ti 1))) - (((c.aj 17 k) + (((c.aj 17 k) * 500) / 10000)) + (f_X4_flow (c.paj 17 k ((c.aj 17 k) + (((c.aj 17 k) * 500) / 10000))) k (c.ti 1))))).ptj 2 ((c.tj 2) - 0)).paj 17 k (((((c.aj 17 k) + (((c.aj 17 k) * 500) / 10000)) + (f_X4_flow (c.paj 17 k ((c.aj 17 k) + (((c.aj 17 k) * 500) / 10000))) k (c.ti 1))) - (((c.aj 17 k) + (((c.aj 17 k) * 500) / 10000)) + (f_X4_flow (c.paj 17 k ((c.aj 17 k) + (((c.aj 17 k) * 500) / 10000))) k (c.ti 1)))) - 0)).aj 19 k = (c.aj 19 k) from (rfl)]
            refine s_lloadn dX4_looksAt_227 rfl rfl ?_
            refine s_ladd dX4_looksAt_228 ?_
            refine s_last' (j := k) dX4_looksAt_229 (Or.inr (Or.inl (hW75.rr 19 (by decide)).2.1)) rfl (by rw [(hW75.rr 19 (by decide)).2.2]; exact hk) (by rw [(hW75.rr 19 (by decide)).2.2]; decide) ?_
            have hW76 := hW75.paj (f := 19) (by decide) (k := k) (v := (c.aj 19 k) + ((((c.aj 17 k) + (((c.aj 17 k) * 500) / 10000)) + (f_X4_flow (c.paj 17 k ((c.aj 17 k) + (((c.aj 17 k) * 500) / 10000))) k (c.ti 1))) + 0))
            have hF76 := hF75.uJ (a := (w.ar 19)) (k := k) (v := (c.aj 19 k) + ((((c.aj 17 k) + (((c.aj 17 k) * 500) / 10000)) + (f_X4_flow (c.paj 17 k ((c.aj 17 k) + (((c.aj 17 k) * 500) / 10000))) k (c.ti 1))) + 0)) (kd := 10) ((hW75.rr 19 (by decide)).2.1) (by decide)
            refine s_aloadn dX4_looksAt_230 rfl rfl ?_
            refine s_getR (n := 73) dX4_looksAt_231 rfl hW76.mm (fun _ _ _ => rfl) (hW76.rr 12 (by decide)).1 ?_
            refine s_iloadn dX4_looksAt_234 rfl rfl ?_
            refine s_iald' (j := k) dX4_looksAt_235 ((hW76.rr 12 (by decide)).2.1) rfl (by rw [(hW76.rr 12 (by decide)).2.2]; exact hk) (by rw [(hW76.rr 12 (by decide)).2.2]; decide) ?_
            rw [hW76.ai 12 (by decide)]
            refine s_aloadn dX4_looksAt_236 rfl rfl ?_
            refine s_get (v := .int (c.ti 1)) (n := 62) dX4_looksAt_237 rfl hW76.mm (congrArg Value.int (congrFun hW76.ti 1)) ?_
            refine s_icgt (tgt := 259) dX4_looksAt_240 (by decide) (fun c_240 => ?_) (fun c_240 => ?_)
            · skip
              refine s_lloadn dX4_looksAt_259 rfl rfl ?_
              exact s_retl dX4_looksAt_260 rfl (NJ.of (F := f_X4_looksAt c k) (x := (((c.aj 17 k) + (((c.aj 17 k) * 500) / 10000)) + (f_X4_flow (c.paj 17 k ((c.aj 17 k) + (((c.aj 17 k) * 500) / 10000))) k (c.ti 1))) + 0) (by unfold f_X4_looksAt; rw [if_neg c_8, if_pos c_67, if_neg c_93, if_pos c_147, if_neg c_155, if_pos c_240]) hW76 hF76)
            · skip
              refine s_aloadn dX4_looksAt_243 rfl rfl ?_
              refine s_getR (n := 78) dX4_looksAt_244 rfl hW76.mm (fun _ _ _ => rfl) (hW76.rr 17 (by decide)).1 ?_
              refine s_iloadn dX4_looksAt_247 rfl rfl ?_
              refine s_lald' (j := k) dX4_looksAt_248 (Or.inr (Or.inl (hW76.rr 17 (by decide)).2.1)) rfl (by rw [(hW76.rr 17 (by decide)).2.2]; exact hk) (by rw [(hW76.rr 17 (by decide)).2.2]; decide) ?_
              rw [hW76.aj 17 (by decide)]
              rw [show ((((((((c.paj 17 k ((c.aj 17 k) + (((c.aj 17 k) * 500) / 10000))).paj 17 k (((c.aj 17 k) + (((c.aj 17 k) * 500) / 10000)) + (f_X4_flow (c.paj 17 k ((c.aj 17 k) + (((c.aj 17 k) * 500) / 10000))) k (c.ti 1)))).paj 10 k 0).paj 18 k ((c.aj 18 k) - (((c.aj 17 k) + (((c.aj 17 k) * 500) / 10000)) + (f_X4_flow (c.paj 17 k ((c.aj 17 k) + (((c.aj 17 k) * 500) / 10000))) k (c.ti 1))))).paj 17 k ((((c.aj 17 k) + (((c.aj 17 k) * 500) / 10000)) + (f_X4_flow (c.paj 17 k ((c.aj 17 k) + (((c.aj 17 k) * 500) / 10000))) k (c.ti 1))) - (((c.aj 17 k) + (((c.aj 17 k) * 500) / 10000)) + (f_X4_flow (c.paj 17 k ((c.aj 17 k) + (((c.aj 17 k) * 500) / 10000))) k (c.ti 1))))).ptj 2 ((c.tj 2) - 0)).paj 17 k (((((c.aj 17 k) + (((c.aj 17 k) * 500) / 10000)) + (f_X4_flow (c.paj 17 k ((c.aj 17 k) + (((c.aj 17 k) * 500) / 10000))) k (c.ti 1))) - (((c.aj 17 k) + (((c.aj 17 k) * 500) / 10000)) + (f_X4_flow (c.paj 17 k ((c.aj 17 k) + (((c.aj 17 k) * 500) / 10000))) k (c.ti 1)))) - 0)).paj 19 k ((c.aj 19 k) + ((((c.aj 17 k) + (((c.aj 17 k) * 500) / 10000)) + (f_X4_flow (c.paj 17 k ((c.aj 17 k) + (((c.aj 17 k) * 500) / 10000))) k (c.ti 1))) + 0))).aj 17 k = ((((c.aj 17 k) + (((c.aj 17 k) * 500) / 10000)) + (f_X4_flow (c.paj 17 k ((c.aj 17 k) + (((c.aj 17 k) * 500) / 10000))) k (c.ti 1))) - (((c.aj 17 k) + (((c.aj 17 k) * 500) / 10000)) + (f_X4_flow (c.paj 17 k ((c.aj 17 k) + (((c.aj 17 k) * 500) / 10000))) k (c.ti 1)))) - 0 from (by show up2 _ 17 k _ 17 k = _; exact up2_self)]
              refine s_lconst (v := 0) dX4_looksAt_249 (by decide) ?_
              refine s_lcne (tgt := 259) dX4_looksAt_250 dX4_looksAt_251 (by decide) (fun c_250 => ?_) (fun c_250 => ?_)
              · skip
                refine s_lloadn dX4_looksAt_259 rfl rfl ?_
                exact s_retl dX4_looksAt_260 rfl (NJ.of (F := f_X4_looksAt c k) (x := (((c.aj 17 k) + (((c.aj 17 k) * 500) / 10000)) + (f_X4_flow (c.paj 17 k ((c.aj 17 k) + (((c.aj 17 k) * 500) / 10000))) k (c.ti 1))) + 0) (by unfold f_X4_looksAt; rw [if_neg c_8, if_pos c_67, if_neg c_93, if_pos c_147, if_neg c_155, if_neg c_240, if_neg c_250]) hW76 hF76)
              · skip
                refine s_aloadn dX4_looksAt_254 rfl rfl ?_
                refine s_iloadn dX4_looksAt_255 rfl rfl ?_
                refine s_cv1G (n := 55) dX4_looksAt_256 rfl (kv hW76.mm (by decide) rfl) rfl (by decide) (by decide) (by decide) (by decide) (Nat.le_of_ble_eq_true rfl) (m_X4_ends hW76 hk) (fun r77 S77 hr77 => ?_) (fun x S2 hr => by obtain ⟨e, -⟩ := hr; cases e)
                obtain ⟨e77, hW77, hG77⟩ := hr77
                cases e77
                have hF77 := hF76.tr hG77
                refine s_lloadn dX4_looksAt_259 rfl rfl ?_
                exact s_retl dX4_looksAt_260 rfl (NJ.of (F := f_X4_looksAt c k) (x := (((c.aj 17 k) + (((c.aj 17 k) * 500) / 10000)) + (f_X4_flow (c.paj 17 k ((c.aj 17 k) + (((c.aj 17 k) * 500) / 10000))) k (c.ti 1))) + 0) (by unfold f_X4_looksAt; rw [if_neg c_8, if_pos c_67, if_neg c_93, if_pos c_147, if_neg c_155, if_neg c_240, if_pos c_250]) hW77 hF77)